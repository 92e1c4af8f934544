theorem dX12_in_0 : decode cX12_in 0 = .ok (.lload_n 0, 1) := by decide +kernel
theorem dX12_in_1 : decode cX12_in 1 = .ok (.lload_n 2, 1) := by decide +kernel
theorem dX12_in_2 : decode cX12_in 2 = .ok (.lcmp, 1) := by decide +kernel
theorem dX12_in_3 : decode cX12_in 3 = .ok (.ifCond .lt 14, 3) := by decide +kernel
theorem dX12_in_17 : decode cX12_in 17 = .ok (.iconst 0, 1) := by decide +kernel
theorem dX12_in_18 : decode cX12_in 18 = .ok (.ireturn, 1) := by decide +kernel
theorem dX12_in_6 : decode cX12_in 6 = .ok (.lload_n 0, 1) := by decide +kernel
theorem dX12_in_7 : decode cX12_in 7 = .ok (.lload 4, 2) := by decide +kernel
theorem dX12_in_9 : decode cX12_in 9 = .ok (.lcmp, 1) := by decide +kernel
theorem dX12_in_10 : decode cX12_in 10 = .ok (.ifCond .gt 7, 3) := by decide +kernel
theorem dX12_in_13 : decode cX12_in 13 = .ok (.iconst 1, 1) := by decide +kernel
theorem dX12_in_14 : decode cX12_in 14 = .ok (.goto 4, 3) := by decide +kernel
set_option maxHeartbeats 4000000 in
set_option maxRecDepth 100000 in
theorem cy_X12_in_0_60 (l : Launch) (D : va_G) (cA : Nat → ClassId) (L : List Nat) (T : Nat → Nat) (r : Rg) (hG : GR L T r) (hL : L.Nodup) (σ : Sg) (ρ : Lg) (hW : WT L ry T σ) (sz : Nat) (p1 : Int32) : Met l yX12_in (.code yX12_in cX12_in 6 (some .boolean) :: wsA) ({ frames := 0, cells := 0, slots := 0, locals := 0 }) (PR D cA L T r σ ρ sz [.long p1.toInt64, .long 0, .long 60]) (QI D cA L T r ry ([] : List (Nat × Nat)) σ sz (fun x σ1 => ((x.toInt = 0 ∨ x.toInt = 1) ∧ (x.toInt = 1 → 0 ≤ p1.toInt ∧ p1.toInt ≤ 60)))) 0 0 (dm L sz) := by
  refine Met.ofW (cc := cX12_in) (maxL := 6) (ret := (some .boolean)) (by decide) rfl ?_
  intro p e s m args below meth c s₁ B hml hv
  obtain ⟨rfl, hsz, hP, hK, hN⟩ := hv
  have hx := B.exec
  have hb := B.bytes
  have hr := B.returns
  have hts : ∀ w ∈ wsA, w.before _ s = true := fun w h => atoms_spec (ws := .code yX12_in cX12_in 6 (some .boolean) :: wsA) B.pre w (List.mem_cons_of_mem _ h)
  have hown : s.vm.findClass RX12 = some m.cls := findClass_of_methodNamed B.named
  subst hsz
  have hLA : LA (dm L s.heap.size) L := ⟨hL, fun a h => Or.inl h⟩
  have hA : ∀ q : Nat, s.heap.size ≤ q → dm L s.heap.size q := fun q h => Or.inr h
  have hS : va_S (dm L s.heap.size) s.heap s.heap [] := va_S.rf
  have hB : TS D cA L T r ry ([] : List (Nat × Nat)) σ σ ρ s.heap := ⟨hP, hW, FR.rf⟩
  have hl := lv_entry ([.long p1.toInt64, .long 0, .long 60]) (n := 6) (Nat.le_of_ble_eq_true rfl)
  rw [lg_entry_eq]
  generalize (lg_sl ([.long p1.toInt64, .long 0, .long 60]) ++ List.replicate (6 - (lg_sl ([.long p1.toInt64, .long 0, .long 60])).length) Slot.unset).toArray = ls at hl ⊢
  have hl : lv_has ls 6 [(0, .long p1.toInt64), (2, .long 0), (4, .long 60)] := hl
  refine lv_lload_n hx hb dX12_in_0 rfl (lv_at hl 0 rfl) ?_
  refine lv_lload_n hx hb dX12_in_1 rfl (lv_at hl 1 rfl) ?_
  refine W.lcmp hx hb dX12_in_2 ?_
  refine lv_if_lt (tgt := 17) hx hb dX12_in_3 (by decide) (fun c_1 => ?_) (fun c_1 => ?_)
  · skip
    have uc_1 := l_lt (l_i p1) (by decide : (0 : Int64).toInt = 0) ((lg_cmp_lt _ _).mp c_1)
    refine lv_iconst (v := 0) hx hb dX12_in_17 (by decide) ?_
    exact W.zret (v := 0) hx hb hr rfl (fun t ht hW => ⟨⟨0, (σ, ρ), rfl, ⟨hB.2.1, hB.2.2, (show ((0 : Int32).toInt = 0 ∨ (0 : Int32).toInt = 1) ∧ ((0 : Int32).toInt = 1 → 0 ≤ p1.toInt ∧ p1.toInt ≤ 60) from ⟨Or.inl (by decide), fun h => absurd h (by decide)⟩)⟩, (show TP D cA L T r σ ρ t.heap from by rw [ht]; exact hB.1)⟩, hS.F ht⟩) hS.2.2 dX12_in_18
  · skip
    have uc_1 := l_nlt (l_i p1) (by decide : (0 : Int64).toInt = 0) (mt (lg_cmp_lt _ _).mpr c_1)
    refine lv_lload_n hx hb dX12_in_6 rfl (lv_at hl 0 rfl) ?_
    refine lv_lload hx hb dX12_in_7 (lv_at hl 2 rfl) ?_
    refine W.lcmp hx hb dX12_in_9 ?_
    refine lv_if_gt (tgt := 17) hx hb dX12_in_10 (by decide) (fun c_2 => ?_) (fun c_2 => ?_)
    · skip
      have uc_2 := l_lt (by decide : (60 : Int64).toInt = 60) (l_i p1) ((lg_cmp_gt _ _).mp c_2)
      refine lv_iconst (v := 0) hx hb dX12_in_17 (by decide) ?_
      exact W.zret (v := 0) hx hb hr rfl (fun t ht hW => ⟨⟨0, (σ, ρ), rfl, ⟨hB.2.1, hB.2.2, (show ((0 : Int32).toInt = 0 ∨ (0 : Int32).toInt = 1) ∧ ((0 : Int32).toInt = 1 → 0 ≤ p1.toInt ∧ p1.toInt ≤ 60) from ⟨Or.inl (by decide), fun h => absurd h (by decide)⟩)⟩, (show TP D cA L T r σ ρ t.heap from by rw [ht]; exact hB.1)⟩, hS.F ht⟩) hS.2.2 dX12_in_18
    · skip
      have uc_2 := l_nlt (by decide : (60 : Int64).toInt = 60) (l_i p1) (mt (lg_cmp_gt _ _).mpr c_2)
      refine lv_iconst (v := 1) hx hb dX12_in_13 (by decide) ?_
      refine lv_goto (tgt := 18) hx hb dX12_in_14 (by decide) ?_
      exact W.zret (v := 1) hx hb hr rfl (fun t ht hW => ⟨⟨1, (σ, ρ), rfl, ⟨hB.2.1, hB.2.2, (show ((1 : Int32).toInt = 0 ∨ (1 : Int32).toInt = 1) ∧ ((1 : Int32).toInt = 1 → 0 ≤ p1.toInt ∧ p1.toInt ≤ 60) from ⟨Or.inr (by decide), fun _ => by omega⟩)⟩, (show TP D cA L T r σ ρ t.heap from by rw [ht]; exact hB.1)⟩, hS.F ht⟩) hS.2.2 dX12_in_18
set_option maxHeartbeats 4000000 in
set_option maxRecDepth 100000 in
theorem cy_X12_in_0_3 (l : Launch) (D : va_G) (cA : Nat → ClassId) (L : List Nat) (T : Nat → Nat) (r : Rg) (hG : GR L T r) (hL : L.Nodup) (σ : Sg) (ρ : Lg) (hW : WT L ry T σ) (sz : Nat) (p1 : Int32) : Met l yX12_in (.code yX12_in cX12_in 6 (some .boolean) :: wsA) ({ frames := 0, cells := 0, slots := 0, locals := 0 }) (PR D cA L T r σ ρ sz [.long p1.toInt64, .long 0, .long 3]) (QI D cA L T r ry ([] : List (Nat × Nat)) σ sz (fun x σ1 => ((x.toInt = 0 ∨ x.toInt = 1) ∧ (x.toInt = 1 → 0 ≤ p1.toInt ∧ p1.toInt ≤ 3)))) 0 0 (dm L sz) := by
  refine Met.ofW (cc := cX12_in) (maxL := 6) (ret := (some .boolean)) (by decide) rfl ?_
  intro p e s m args below meth c s₁ B hml hv
  obtain ⟨rfl, hsz, hP, hK, hN⟩ := hv
  have hx := B.exec
  have hb := B.bytes
  have hr := B.returns
  have hts : ∀ w ∈ wsA, w.before _ s = true := fun w h => atoms_spec (ws := .code yX12_in cX12_in 6 (some .boolean) :: wsA) B.pre w (List.mem_cons_of_mem _ h)
  have hown : s.vm.findClass RX12 = some m.cls := findClass_of_methodNamed B.named
  subst hsz
  have hLA : LA (dm L s.heap.size) L := ⟨hL, fun a h => Or.inl h⟩
  have hA : ∀ q : Nat, s.heap.size ≤ q → dm L s.heap.size q := fun q h => Or.inr h
  have hS : va_S (dm L s.heap.size) s.heap s.heap [] := va_S.rf
  have hB : TS D cA L T r ry ([] : List (Nat × Nat)) σ σ ρ s.heap := ⟨hP, hW, FR.rf⟩
  have hl := lv_entry ([.long p1.toInt64, .long 0, .long 3]) (n := 6) (Nat.le_of_ble_eq_true rfl)
  rw [lg_entry_eq]
  generalize (lg_sl ([.long p1.toInt64, .long 0, .long 3]) ++ List.replicate (6 - (lg_sl ([.long p1.toInt64, .long 0, .long 3])).length) Slot.unset).toArray = ls at hl ⊢
  have hl : lv_has ls 6 [(0, .long p1.toInt64), (2, .long 0), (4, .long 3)] := hl
  refine lv_lload_n hx hb dX12_in_0 rfl (lv_at hl 0 rfl) ?_
  refine lv_lload_n hx hb dX12_in_1 rfl (lv_at hl 1 rfl) ?_
  refine W.lcmp hx hb dX12_in_2 ?_
  refine lv_if_lt (tgt := 17) hx hb dX12_in_3 (by decide) (fun c_1 => ?_) (fun c_1 => ?_)
  · skip
    have uc_1 := l_lt (l_i p1) (by decide : (0 : Int64).toInt = 0) ((lg_cmp_lt _ _).mp c_1)
    refine lv_iconst (v := 0) hx hb dX12_in_17 (by decide) ?_
    exact W.zret (v := 0) hx hb hr rfl (fun t ht hW => ⟨⟨0, (σ, ρ), rfl, ⟨hB.2.1, hB.2.2, (show ((0 : Int32).toInt = 0 ∨ (0 : Int32).toInt = 1) ∧ ((0 : Int32).toInt = 1 → 0 ≤ p1.toInt ∧ p1.toInt ≤ 3) from ⟨Or.inl (by decide), fun h => absurd h (by decide)⟩)⟩, (show TP D cA L T r σ ρ t.heap from by rw [ht]; exact hB.1)⟩, hS.F ht⟩) hS.2.2 dX12_in_18
  · skip
    have uc_1 := l_nlt (l_i p1) (by decide : (0 : Int64).toInt = 0) (mt (lg_cmp_lt _ _).mpr c_1)
    refine lv_lload_n hx hb dX12_in_6 rfl (lv_at hl 0 rfl) ?_
    refine lv_lload hx hb dX12_in_7 (lv_at hl 2 rfl) ?_
    refine W.lcmp hx hb dX12_in_9 ?_
    refine lv_if_gt (tgt := 17) hx hb dX12_in_10 (by decide) (fun c_2 => ?_) (fun c_2 => ?_)
    · skip
      have uc_2 := l_lt (by decide : (3 : Int64).toInt = 3) (l_i p1) ((lg_cmp_gt _ _).mp c_2)
      refine lv_iconst (v := 0) hx hb dX12_in_17 (by decide) ?_
      exact W.zret (v := 0) hx hb hr rfl (fun t ht hW => ⟨⟨0, (σ, ρ), rfl, ⟨hB.2.1, hB.2.2, (show ((0 : Int32).toInt = 0 ∨ (0 : Int32).toInt = 1) ∧ ((0 : Int32).toInt = 1 → 0 ≤ p1.toInt ∧ p1.toInt ≤ 3) from ⟨Or.inl (by decide), fun h => absurd h (by decide)⟩)⟩, (show TP D cA L T r σ ρ t.heap from by rw [ht]; exact hB.1)⟩, hS.F ht⟩) hS.2.2 dX12_in_18
    · skip
      have uc_2 := l_nlt (by decide : (3 : Int64).toInt = 3) (l_i p1) (mt (lg_cmp_gt _ _).mpr c_2)
      refine lv_iconst (v := 1) hx hb dX12_in_13 (by decide) ?_
      refine lv_goto (tgt := 18) hx hb dX12_in_14 (by decide) ?_
      exact W.zret (v := 1) hx hb hr rfl (fun t ht hW => ⟨⟨1, (σ, ρ), rfl, ⟨hB.2.1, hB.2.2, (show ((1 : Int32).toInt = 0 ∨ (1 : Int32).toInt = 1) ∧ ((1 : Int32).toInt = 1 → 0 ≤ p1.toInt ∧ p1.toInt ≤ 3) from ⟨Or.inr (by decide), fun _ => by omega⟩)⟩, (show TP D cA L T r σ ρ t.heap from by rw [ht]; exact hB.1)⟩, hS.F ht⟩) hS.2.2 dX12_in_18
set_option maxHeartbeats 4000000 in
set_option maxRecDepth 100000 in
theorem cy_X12_in_0_9 (l : Launch) (D : va_G) (cA : Nat → ClassId) (L : List Nat) (T : Nat → Nat) (r : Rg) (hG : GR L T r) (hL : L.Nodup) (σ : Sg) (ρ : Lg) (hW : WT L ry T σ) (sz : Nat) (p1 : Int32) : Met l yX12_in (.code yX12_in cX12_in 6 (some .boolean) :: wsA) ({ frames := 0, cells := 0, slots := 0, locals := 0 }) (PR D cA L T r σ ρ sz [.long p1.toInt64, .long 0, .long 9]) (QI D cA L T r ry ([] : List (Nat × Nat)) σ sz (fun x σ1 => ((x.toInt = 0 ∨ x.toInt = 1) ∧ (x.toInt = 1 → 0 ≤ p1.toInt ∧ p1.toInt ≤ 9)))) 0 0 (dm L sz) := by
  refine Met.ofW (cc := cX12_in) (maxL := 6) (ret := (some .boolean)) (by decide) rfl ?_
  intro p e s m args below meth c s₁ B hml hv
  obtain ⟨rfl, hsz, hP, hK, hN⟩ := hv
  have hx := B.exec
  have hb := B.bytes
  have hr := B.returns
  have hts : ∀ w ∈ wsA, w.before _ s = true := fun w h => atoms_spec (ws := .code yX12_in cX12_in 6 (some .boolean) :: wsA) B.pre w (List.mem_cons_of_mem _ h)
  have hown : s.vm.findClass RX12 = some m.cls := findClass_of_methodNamed B.named
  subst hsz
  have hLA : LA (dm L s.heap.size) L := ⟨hL, fun a h => Or.inl h⟩
  have hA : ∀ q : Nat, s.heap.size ≤ q → dm L s.heap.size q := fun q h => Or.inr h
  have hS : va_S (dm L s.heap.size) s.heap s.heap [] := va_S.rf
  have hB : TS D cA L T r ry ([] : List (Nat × Nat)) σ σ ρ s.heap := ⟨hP, hW, FR.rf⟩
  have hl := lv_entry ([.long p1.toInt64, .long 0, .long 9]) (n := 6) (Nat.le_of_ble_eq_true rfl)
  rw [lg_entry_eq]
  generalize (lg_sl ([.long p1.toInt64, .long 0, .long 9]) ++ List.replicate (6 - (lg_sl ([.long p1.toInt64, .long 0, .long 9])).length) Slot.unset).toArray = ls at hl ⊢
  have hl : lv_has ls 6 [(0, .long p1.toInt64), (2, .long 0), (4, .long 9)] := hl
  refine lv_lload_n hx hb dX12_in_0 rfl (lv_at hl 0 rfl) ?_
  refine lv_lload_n hx hb dX12_in_1 rfl (lv_at hl 1 rfl) ?_
  refine W.lcmp hx hb dX12_in_2 ?_
  refine lv_if_lt (tgt := 17) hx hb dX12_in_3 (by decide) (fun c_1 => ?_) (fun c_1 => ?_)
  · skip
    have uc_1 := l_lt (l_i p1) (by decide : (0 : Int64).toInt = 0) ((lg_cmp_lt _ _).mp c_1)
    refine lv_iconst (v := 0) hx hb dX12_in_17 (by decide) ?_
    exact W.zret (v := 0) hx hb hr rfl (fun t ht hW => ⟨⟨0, (σ, ρ), rfl, ⟨hB.2.1, hB.2.2, (show ((0 : Int32).toInt = 0 ∨ (0 : Int32).toInt = 1) ∧ ((0 : Int32).toInt = 1 → 0 ≤ p1.toInt ∧ p1.toInt ≤ 9) from ⟨Or.inl (by decide), fun h => absurd h (by decide)⟩)⟩, (show TP D cA L T r σ ρ t.heap from by rw [ht]; exact hB.1)⟩, hS.F ht⟩) hS.2.2 dX12_in_18
  · skip
    have uc_1 := l_nlt (l_i p1) (by decide : (0 : Int64).toInt = 0) (mt (lg_cmp_lt _ _).mpr c_1)
    refine lv_lload_n hx hb dX12_in_6 rfl (lv_at hl 0 rfl) ?_
    refine lv_lload hx hb dX12_in_7 (lv_at hl 2 rfl) ?_
    refine W.lcmp hx hb dX12_in_9 ?_
    refine lv_if_gt (tgt := 17) hx hb dX12_in_10 (by decide) (fun c_2 => ?_) (fun c_2 => ?_)
    · skip
      have uc_2 := l_lt (by decide : (9 : Int64).toInt = 9) (l_i p1) ((lg_cmp_gt _ _).mp c_2)
      refine lv_iconst (v := 0) hx hb dX12_in_17 (by decide) ?_
      exact W.zret (v := 0) hx hb hr rfl (fun t ht hW => ⟨⟨0, (σ, ρ), rfl, ⟨hB.2.1, hB.2.2, (show ((0 : Int32).toInt = 0 ∨ (0 : Int32).toInt = 1) ∧ ((0 : Int32).toInt = 1 → 0 ≤ p1.toInt ∧ p1.toInt ≤ 9) from ⟨Or.inl (by decide), fun h => absurd h (by decide)⟩)⟩, (show TP D cA L T r σ ρ t.heap from by rw [ht]; exact hB.1)⟩, hS.F ht⟩) hS.2.2 dX12_in_18
    · skip
      have uc_2 := l_nlt (by decide : (9 : Int64).toInt = 9) (l_i p1) (mt (lg_cmp_gt _ _).mpr c_2)
      refine lv_iconst (v := 1) hx hb dX12_in_13 (by decide) ?_
      refine lv_goto (tgt := 18) hx hb dX12_in_14 (by decide) ?_
      exact W.zret (v := 1) hx hb hr rfl (fun t ht hW => ⟨⟨1, (σ, ρ), rfl, ⟨hB.2.1, hB.2.2, (show ((1 : Int32).toInt = 0 ∨ (1 : Int32).toInt = 1) ∧ ((1 : Int32).toInt = 1 → 0 ≤ p1.toInt ∧ p1.toInt ≤ 9) from ⟨Or.inr (by decide), fun _ => by omega⟩)⟩, (show TP D cA L T r σ ρ t.heap from by rw [ht]; exact hB.1)⟩, hS.F ht⟩) hS.2.2 dX12_in_18
set_option maxHeartbeats 4000000 in
set_option maxRecDepth 100000 in
theorem cy_X12_in_0_7 (l : Launch) (D : va_G) (cA : Nat → ClassId) (L : List Nat) (T : Nat → Nat) (r : Rg) (hG : GR L T r) (hL : L.Nodup) (σ : Sg) (ρ : Lg) (hW : WT L ry T σ) (sz : Nat) (p1 : Int32) : Met l yX12_in (.code yX12_in cX12_in 6 (some .boolean) :: wsA) ({ frames := 0, cells := 0, slots := 0, locals := 0 }) (PR D cA L T r σ ρ sz [.long p1.toInt64, .long 0, .long 7]) (QI D cA L T r ry ([] : List (Nat × Nat)) σ sz (fun x σ1 => ((x.toInt = 0 ∨ x.toInt = 1) ∧ (x.toInt = 1 → 0 ≤ p1.toInt ∧ p1.toInt ≤ 7)))) 0 0 (dm L sz) := by
  refine Met.ofW (cc := cX12_in) (maxL := 6) (ret := (some .boolean)) (by decide) rfl ?_
  intro p e s m args below meth c s₁ B hml hv
  obtain ⟨rfl, hsz, hP, hK, hN⟩ := hv
  have hx := B.exec
  have hb := B.bytes
  have hr := B.returns
  have hts : ∀ w ∈ wsA, w.before _ s = true := fun w h => atoms_spec (ws := .code yX12_in cX12_in 6 (some .boolean) :: wsA) B.pre w (List.mem_cons_of_mem _ h)
  have hown : s.vm.findClass RX12 = some m.cls := findClass_of_methodNamed B.named
  subst hsz
  have hLA : LA (dm L s.heap.size) L := ⟨hL, fun a h => Or.inl h⟩
  have hA : ∀ q : Nat, s.heap.size ≤ q → dm L s.heap.size q := fun q h => Or.inr h
  have hS : va_S (dm L s.heap.size) s.heap s.heap [] := va_S.rf
  have hB : TS D cA L T r ry ([] : List (Nat × Nat)) σ σ ρ s.heap := ⟨hP, hW, FR.rf⟩
  have hl := lv_entry ([.long p1.toInt64, .long 0, .long 7]) (n := 6) (Nat.le_of_ble_eq_true rfl)
  rw [lg_entry_eq]
  generalize (lg_sl ([.long p1.toInt64, .long 0, .long 7]) ++ List.replicate (6 - (lg_sl ([.long p1.toInt64, .long 0, .long 7])).length) Slot.unset).toArray = ls at hl ⊢
  have hl : lv_has ls 6 [(0, .long p1.toInt64), (2, .long 0), (4, .long 7)] := hl
  refine lv_lload_n hx hb dX12_in_0 rfl (lv_at hl 0 rfl) ?_
  refine lv_lload_n hx hb dX12_in_1 rfl (lv_at hl 1 rfl) ?_
  refine W.lcmp hx hb dX12_in_2 ?_
  refine lv_if_lt (tgt := 17) hx hb dX12_in_3 (by decide) (fun c_1 => ?_) (fun c_1 => ?_)
  · skip
    have uc_1 := l_lt (l_i p1) (by decide : (0 : Int64).toInt = 0) ((lg_cmp_lt _ _).mp c_1)
    refine lv_iconst (v := 0) hx hb dX12_in_17 (by decide) ?_
    exact W.zret (v := 0) hx hb hr rfl (fun t ht hW => ⟨⟨0, (σ, ρ), rfl, ⟨hB.2.1, hB.2.2, (show ((0 : Int32).toInt = 0 ∨ (0 : Int32).toInt = 1) ∧ ((0 : Int32).toInt = 1 → 0 ≤ p1.toInt ∧ p1.toInt ≤ 7) from ⟨Or.inl (by decide), fun h => absurd h (by decide)⟩)⟩, (show TP D cA L T r σ ρ t.heap from by rw [ht]; exact hB.1)⟩, hS.F ht⟩) hS.2.2 dX12_in_18
  · skip
    have uc_1 := l_nlt (l_i p1) (by decide : (0 : Int64).toInt = 0) (mt (lg_cmp_lt _ _).mpr c_1)
    refine lv_lload_n hx hb dX12_in_6 rfl (lv_at hl 0 rfl) ?_
    refine lv_lload hx hb dX12_in_7 (lv_at hl 2 rfl) ?_
    refine W.lcmp hx hb dX12_in_9 ?_
    refine lv_if_gt (tgt := 17) hx hb dX12_in_10 (by decide) (fun c_2 => ?_) (fun c_2 => ?_)
    · skip
      have uc_2 := l_lt (by decide : (7 : Int64).toInt = 7) (l_i p1) ((lg_cmp_gt _ _).mp c_2)
      refine lv_iconst (v := 0) hx hb dX12_in_17 (by decide) ?_
      exact W.zret (v := 0) hx hb hr rfl (fun t ht hW => ⟨⟨0, (σ, ρ), rfl, ⟨hB.2.1, hB.2.2, (show ((0 : Int32).toInt = 0 ∨ (0 : Int32).toInt = 1) ∧ ((0 : Int32).toInt = 1 → 0 ≤ p1.toInt ∧ p1.toInt ≤ 7) from ⟨Or.inl (by decide), fun h => absurd h (by decide)⟩)⟩, (show TP D cA L T r σ ρ t.heap from by rw [ht]; exact hB.1)⟩, hS.F ht⟩) hS.2.2 dX12_in_18
    · skip
      have uc_2 := l_nlt (by decide : (7 : Int64).toInt = 7) (l_i p1) (mt (lg_cmp_gt _ _).mpr c_2)
      refine lv_iconst (v := 1) hx hb dX12_in_13 (by decide) ?_
      refine lv_goto (tgt := 18) hx hb dX12_in_14 (by decide) ?_
      exact W.zret (v := 1) hx hb hr rfl (fun t ht hW => ⟨⟨1, (σ, ρ), rfl, ⟨hB.2.1, hB.2.2, (show ((1 : Int32).toInt = 0 ∨ (1 : Int32).toInt = 1) ∧ ((1 : Int32).toInt = 1 → 0 ≤ p1.toInt ∧ p1.toInt ≤ 7) from ⟨Or.inr (by decide), fun _ => by omega⟩)⟩, (show TP D cA L T r σ ρ t.heap from by rw [ht]; exact hB.1)⟩, hS.F ht⟩) hS.2.2 dX12_in_18
set_option maxHeartbeats 4000000 in
set_option maxRecDepth 100000 in
theorem cy_X12_in_0_2 (l : Launch) (D : va_G) (cA : Nat → ClassId) (L : List Nat) (T : Nat → Nat) (r : Rg) (hG : GR L T r) (hL : L.Nodup) (σ : Sg) (ρ : Lg) (hW : WT L ry T σ) (sz : Nat) (p1 : Int32) : Met l yX12_in (.code yX12_in cX12_in 6 (some .boolean) :: wsA) ({ frames := 0, cells := 0, slots := 0, locals := 0 }) (PR D cA L T r σ ρ sz [.long p1.toInt64, .long 0, .long 2]) (QI D cA L T r ry ([] : List (Nat × Nat)) σ sz (fun x σ1 => ((x.toInt = 0 ∨ x.toInt = 1) ∧ (x.toInt = 1 → 0 ≤ p1.toInt ∧ p1.toInt ≤ 2)))) 0 0 (dm L sz) := by
  refine Met.ofW (cc := cX12_in) (maxL := 6) (ret := (some .boolean)) (by decide) rfl ?_
  intro p e s m args below meth c s₁ B hml hv
  obtain ⟨rfl, hsz, hP, hK, hN⟩ := hv
  have hx := B.exec
  have hb := B.bytes
  have hr := B.returns
  have hts : ∀ w ∈ wsA, w.before _ s = true := fun w h => atoms_spec (ws := .code yX12_in cX12_in 6 (some .boolean) :: wsA) B.pre w (List.mem_cons_of_mem _ h)
  have hown : s.vm.findClass RX12 = some m.cls := findClass_of_methodNamed B.named
  subst hsz
  have hLA : LA (dm L s.heap.size) L := ⟨hL, fun a h => Or.inl h⟩
  have hA : ∀ q : Nat, s.heap.size ≤ q → dm L s.heap.size q := fun q h => Or.inr h
  have hS : va_S (dm L s.heap.size) s.heap s.heap [] := va_S.rf
  have hB : TS D cA L T r ry ([] : List (Nat × Nat)) σ σ ρ s.heap := ⟨hP, hW, FR.rf⟩
  have hl := lv_entry ([.long p1.toInt64, .long 0, .long 2]) (n := 6) (Nat.le_of_ble_eq_true rfl)
  rw [lg_entry_eq]
  generalize (lg_sl ([.long p1.toInt64, .long 0, .long 2]) ++ List.replicate (6 - (lg_sl ([.long p1.toInt64, .long 0, .long 2])).length) Slot.unset).toArray = ls at hl ⊢
  have hl : lv_has ls 6 [(0, .long p1.toInt64), (2, .long 0), (4, .long 2)] := hl
  refine lv_lload_n hx hb dX12_in_0 rfl (lv_at hl 0 rfl) ?_
  refine lv_lload_n hx hb dX12_in_1 rfl (lv_at hl 1 rfl) ?_
  refine W.lcmp hx hb dX12_in_2 ?_
  refine lv_if_lt (tgt := 17) hx hb dX12_in_3 (by decide) (fun c_1 => ?_) (fun c_1 => ?_)
  · skip
    have uc_1 := l_lt (l_i p1) (by decide : (0 : Int64).toInt = 0) ((lg_cmp_lt _ _).mp c_1)
    refine lv_iconst (v := 0) hx hb dX12_in_17 (by decide) ?_
    exact W.zret (v := 0) hx hb hr rfl (fun t ht hW => ⟨⟨0, (σ, ρ), rfl, ⟨hB.2.1, hB.2.2, (show ((0 : Int32).toInt = 0 ∨ (0 : Int32).toInt = 1) ∧ ((0 : Int32).toInt = 1 → 0 ≤ p1.toInt ∧ p1.toInt ≤ 2) from ⟨Or.inl (by decide), fun h => absurd h (by decide)⟩)⟩, (show TP D cA L T r σ ρ t.heap from by rw [ht]; exact hB.1)⟩, hS.F ht⟩) hS.2.2 dX12_in_18
  · skip
    have uc_1 := l_nlt (l_i p1) (by decide : (0 : Int64).toInt = 0) (mt (lg_cmp_lt _ _).mpr c_1)
    refine lv_lload_n hx hb dX12_in_6 rfl (lv_at hl 0 rfl) ?_
    refine lv_lload hx hb dX12_in_7 (lv_at hl 2 rfl) ?_
    refine W.lcmp hx hb dX12_in_9 ?_
    refine lv_if_gt (tgt := 17) hx hb dX12_in_10 (by decide) (fun c_2 => ?_) (fun c_2 => ?_)
    · skip
      have uc_2 := l_lt (by decide : (2 : Int64).toInt = 2) (l_i p1) ((lg_cmp_gt _ _).mp c_2)
      refine lv_iconst (v := 0) hx hb dX12_in_17 (by decide) ?_
      exact W.zret (v := 0) hx hb hr rfl (fun t ht hW => ⟨⟨0, (σ, ρ), rfl, ⟨hB.2.1, hB.2.2, (show ((0 : Int32).toInt = 0 ∨ (0 : Int32).toInt = 1) ∧ ((0 : Int32).toInt = 1 → 0 ≤ p1.toInt ∧ p1.toInt ≤ 2) from ⟨Or.inl (by decide), fun h => absurd h (by decide)⟩)⟩, (show TP D cA L T r σ ρ t.heap from by rw [ht]; exact hB.1)⟩, hS.F ht⟩) hS.2.2 dX12_in_18
    · skip
      have uc_2 := l_nlt (by decide : (2 : Int64).toInt = 2) (l_i p1) (mt (lg_cmp_gt _ _).mpr c_2)
      refine lv_iconst (v := 1) hx hb dX12_in_13 (by decide) ?_
      refine lv_goto (tgt := 18) hx hb dX12_in_14 (by decide) ?_
      exact W.zret (v := 1) hx hb hr rfl (fun t ht hW => ⟨⟨1, (σ, ρ), rfl, ⟨hB.2.1, hB.2.2, (show ((1 : Int32).toInt = 0 ∨ (1 : Int32).toInt = 1) ∧ ((1 : Int32).toInt = 1 → 0 ≤ p1.toInt ∧ p1.toInt ≤ 2) from ⟨Or.inr (by decide), fun _ => by omega⟩)⟩, (show TP D cA L T r σ ρ t.heap from by rw [ht]; exact hB.1)⟩, hS.F ht⟩) hS.2.2 dX12_in_18
set_option maxHeartbeats 4000000 in
set_option maxRecDepth 100000 in
theorem cy_X12_in_0_1 (l : Launch) (D : va_G) (cA : Nat → ClassId) (L : List Nat) (T : Nat → Nat) (r : Rg) (hG : GR L T r) (hL : L.Nodup) (σ : Sg) (ρ : Lg) (hW : WT L ry T σ) (sz : Nat) (p1 : Int32) : Met l yX12_in (.code yX12_in cX12_in 6 (some .boolean) :: wsA) ({ frames := 0, cells := 0, slots := 0, locals := 0 }) (PR D cA L T r σ ρ sz [.long p1.toInt64, .long 0, .long 1]) (QI D cA L T r ry ([] : List (Nat × Nat)) σ sz (fun x σ1 => ((x.toInt = 0 ∨ x.toInt = 1) ∧ (x.toInt = 1 → 0 ≤ p1.toInt ∧ p1.toInt ≤ 1)))) 0 0 (dm L sz) := by
  refine Met.ofW (cc := cX12_in) (maxL := 6) (ret := (some .boolean)) (by decide) rfl ?_
  intro p e s m args below meth c s₁ B hml hv
  obtain ⟨rfl, hsz, hP, hK, hN⟩ := hv
  have hx := B.exec
  have hb := B.bytes
  have hr := B.returns
  have hts : ∀ w ∈ wsA, w.before _ s = true := fun w h => atoms_spec (ws := .code yX12_in cX12_in 6 (some .boolean) :: wsA) B.pre w (List.mem_cons_of_mem _ h)
  have hown : s.vm.findClass RX12 = some m.cls := findClass_of_methodNamed B.named
  subst hsz
  have hLA : LA (dm L s.heap.size) L := ⟨hL, fun a h => Or.inl h⟩
  have hA : ∀ q : Nat, s.heap.size ≤ q → dm L s.heap.size q := fun q h => Or.inr h
  have hS : va_S (dm L s.heap.size) s.heap s.heap [] := va_S.rf
  have hB : TS D cA L T r ry ([] : List (Nat × Nat)) σ σ ρ s.heap := ⟨hP, hW, FR.rf⟩
  have hl := lv_entry ([.long p1.toInt64, .long 0, .long 1]) (n := 6) (Nat.le_of_ble_eq_true rfl)
  rw [lg_entry_eq]
  generalize (lg_sl ([.long p1.toInt64, .long 0, .long 1]) ++ List.replicate (6 - (lg_sl ([.long p1.toInt64, .long 0, .long 1])).length) Slot.unset).toArray = ls at hl ⊢
  have hl : lv_has ls 6 [(0, .long p1.toInt64), (2, .long 0), (4, .long 1)] := hl
  refine lv_lload_n hx hb dX12_in_0 rfl (lv_at hl 0 rfl) ?_
  refine lv_lload_n hx hb dX12_in_1 rfl (lv_at hl 1 rfl) ?_
  refine W.lcmp hx hb dX12_in_2 ?_
  refine lv_if_lt (tgt := 17) hx hb dX12_in_3 (by decide) (fun c_1 => ?_) (fun c_1 => ?_)
  · skip
    have uc_1 := l_lt (l_i p1) (by decide : (0 : Int64).toInt = 0) ((lg_cmp_lt _ _).mp c_1)
    refine lv_iconst (v := 0) hx hb dX12_in_17 (by decide) ?_
    exact W.zret (v := 0) hx hb hr rfl (fun t ht hW => ⟨⟨0, (σ, ρ), rfl, ⟨hB.2.1, hB.2.2, (show ((0 : Int32).toInt = 0 ∨ (0 : Int32).toInt = 1) ∧ ((0 : Int32).toInt = 1 → 0 ≤ p1.toInt ∧ p1.toInt ≤ 1) from ⟨Or.inl (by decide), fun h => absurd h (by decide)⟩)⟩, (show TP D cA L T r σ ρ t.heap from by rw [ht]; exact hB.1)⟩, hS.F ht⟩) hS.2.2 dX12_in_18
  · skip
    have uc_1 := l_nlt (l_i p1) (by decide : (0 : Int64).toInt = 0) (mt (lg_cmp_lt _ _).mpr c_1)
    refine lv_lload_n hx hb dX12_in_6 rfl (lv_at hl 0 rfl) ?_
    refine lv_lload hx hb dX12_in_7 (lv_at hl 2 rfl) ?_
    refine W.lcmp hx hb dX12_in_9 ?_
    refine lv_if_gt (tgt := 17) hx hb dX12_in_10 (by decide) (fun c_2 => ?_) (fun c_2 => ?_)
    · skip
      have uc_2 := l_lt (by decide : (1 : Int64).toInt = 1) (l_i p1) ((lg_cmp_gt _ _).mp c_2)
      refine lv_iconst (v := 0) hx hb dX12_in_17 (by decide) ?_
      exact W.zret (v := 0) hx hb hr rfl (fun t ht hW => ⟨⟨0, (σ, ρ), rfl, ⟨hB.2.1, hB.2.2, (show ((0 : Int32).toInt = 0 ∨ (0 : Int32).toInt = 1) ∧ ((0 : Int32).toInt = 1 → 0 ≤ p1.toInt ∧ p1.toInt ≤ 1) from ⟨Or.inl (by decide), fun h => absurd h (by decide)⟩)⟩, (show TP D cA L T r σ ρ t.heap from by rw [ht]; exact hB.1)⟩, hS.F ht⟩) hS.2.2 dX12_in_18
    · skip
      have uc_2 := l_nlt (by decide : (1 : Int64).toInt = 1) (l_i p1) (mt (lg_cmp_gt _ _).mpr c_2)
      refine lv_iconst (v := 1) hx hb dX12_in_13 (by decide) ?_
      refine lv_goto (tgt := 18) hx hb dX12_in_14 (by decide) ?_
      exact W.zret (v := 1) hx hb hr rfl (fun t ht hW => ⟨⟨1, (σ, ρ), rfl, ⟨hB.2.1, hB.2.2, (show ((1 : Int32).toInt = 0 ∨ (1 : Int32).toInt = 1) ∧ ((1 : Int32).toInt = 1 → 0 ≤ p1.toInt ∧ p1.toInt ≤ 1) from ⟨Or.inr (by decide), fun _ => by omega⟩)⟩, (show TP D cA L T r σ ρ t.heap from by rw [ht]; exact hB.1)⟩, hS.F ht⟩) hS.2.2 dX12_in_18
set_option maxHeartbeats 4000000 in
set_option maxRecDepth 100000 in
theorem cy_X12_in_m1_7 (l : Launch) (D : va_G) (cA : Nat → ClassId) (L : List Nat) (T : Nat → Nat) (r : Rg) (hG : GR L T r) (hL : L.Nodup) (σ : Sg) (ρ : Lg) (hW : WT L ry T σ) (sz : Nat) (p1 : Int32) : Met l yX12_in (.code yX12_in cX12_in 6 (some .boolean) :: wsA) ({ frames := 0, cells := 0, slots := 0, locals := 0 }) (PR D cA L T r σ ρ sz [.long p1.toInt64, .long (-1), .long 7]) (QI D cA L T r ry ([] : List (Nat × Nat)) σ sz (fun x σ1 => ((x.toInt = 0 ∨ x.toInt = 1) ∧ (x.toInt = 1 → (-1) ≤ p1.toInt ∧ p1.toInt ≤ 7)))) 0 0 (dm L sz) := by
  refine Met.ofW (cc := cX12_in) (maxL := 6) (ret := (some .boolean)) (by decide) rfl ?_
  intro p e s m args below meth c s₁ B hml hv
  obtain ⟨rfl, hsz, hP, hK, hN⟩ := hv
  have hx := B.exec
  have hb := B.bytes
  have hr := B.returns
  have hts : ∀ w ∈ wsA, w.before _ s = true := fun w h => atoms_spec (ws := .code yX12_in cX12_in 6 (some .boolean) :: wsA) B.pre w (List.mem_cons_of_mem _ h)
  have hown : s.vm.findClass RX12 = some m.cls := findClass_of_methodNamed B.named
  subst hsz
  have hLA : LA (dm L s.heap.size) L := ⟨hL, fun a h => Or.inl h⟩
  have hA : ∀ q : Nat, s.heap.size ≤ q → dm L s.heap.size q := fun q h => Or.inr h
  have hS : va_S (dm L s.heap.size) s.heap s.heap [] := va_S.rf
  have hB : TS D cA L T r ry ([] : List (Nat × Nat)) σ σ ρ s.heap := ⟨hP, hW, FR.rf⟩
  have hl := lv_entry ([.long p1.toInt64, .long (-1), .long 7]) (n := 6) (Nat.le_of_ble_eq_true rfl)
  rw [lg_entry_eq]
  generalize (lg_sl ([.long p1.toInt64, .long (-1), .long 7]) ++ List.replicate (6 - (lg_sl ([.long p1.toInt64, .long (-1), .long 7])).length) Slot.unset).toArray = ls at hl ⊢
  have hl : lv_has ls 6 [(0, .long p1.toInt64), (2, .long (-1)), (4, .long 7)] := hl
  refine lv_lload_n hx hb dX12_in_0 rfl (lv_at hl 0 rfl) ?_
  refine lv_lload_n hx hb dX12_in_1 rfl (lv_at hl 1 rfl) ?_
  refine W.lcmp hx hb dX12_in_2 ?_
  refine lv_if_lt (tgt := 17) hx hb dX12_in_3 (by decide) (fun c_1 => ?_) (fun c_1 => ?_)
  · skip
    have uc_1 := l_lt (l_i p1) (by decide : ((-1) : Int64).toInt = (-1)) ((lg_cmp_lt _ _).mp c_1)
    refine lv_iconst (v := 0) hx hb dX12_in_17 (by decide) ?_
    exact W.zret (v := 0) hx hb hr rfl (fun t ht hW => ⟨⟨0, (σ, ρ), rfl, ⟨hB.2.1, hB.2.2, (show ((0 : Int32).toInt = 0 ∨ (0 : Int32).toInt = 1) ∧ ((0 : Int32).toInt = 1 → (-1) ≤ p1.toInt ∧ p1.toInt ≤ 7) from ⟨Or.inl (by decide), fun h => absurd h (by decide)⟩)⟩, (show TP D cA L T r σ ρ t.heap from by rw [ht]; exact hB.1)⟩, hS.F ht⟩) hS.2.2 dX12_in_18
  · skip
    have uc_1 := l_nlt (l_i p1) (by decide : ((-1) : Int64).toInt = (-1)) (mt (lg_cmp_lt _ _).mpr c_1)
    refine lv_lload_n hx hb dX12_in_6 rfl (lv_at hl 0 rfl) ?_
    refine lv_lload hx hb dX12_in_7 (lv_at hl 2 rfl) ?_
    refine W.lcmp hx hb dX12_in_9 ?_
    refine lv_if_gt (tgt := 17) hx hb dX12_in_10 (by decide) (fun c_2 => ?_) (fun c_2 => ?_)
    · skip
      have uc_2 := l_lt (by decide : (7 : Int64).toInt = 7) (l_i p1) ((lg_cmp_gt _ _).mp c_2)
      refine lv_iconst (v := 0) hx hb dX12_in_17 (by decide) ?_
      exact W.zret (v := 0) hx hb hr rfl (fun t ht hW => ⟨⟨0, (σ, ρ), rfl, ⟨hB.2.1, hB.2.2, (show ((0 : Int32).toInt = 0 ∨ (0 : Int32).toInt = 1) ∧ ((0 : Int32).toInt = 1 → (-1) ≤ p1.toInt ∧ p1.toInt ≤ 7) from ⟨Or.inl (by decide), fun h => absurd h (by decide)⟩)⟩, (show TP D cA L T r σ ρ t.heap from by rw [ht]; exact hB.1)⟩, hS.F ht⟩) hS.2.2 dX12_in_18
    · skip
      have uc_2 := l_nlt (by decide : (7 : Int64).toInt = 7) (l_i p1) (mt (lg_cmp_gt _ _).mpr c_2)
      refine lv_iconst (v := 1) hx hb dX12_in_13 (by decide) ?_
      refine lv_goto (tgt := 18) hx hb dX12_in_14 (by decide) ?_
      exact W.zret (v := 1) hx hb hr rfl (fun t ht hW => ⟨⟨1, (σ, ρ), rfl, ⟨hB.2.1, hB.2.2, (show ((1 : Int32).toInt = 0 ∨ (1 : Int32).toInt = 1) ∧ ((1 : Int32).toInt = 1 → (-1) ≤ p1.toInt ∧ p1.toInt ≤ 7) from ⟨Or.inr (by decide), fun _ => by omega⟩)⟩, (show TP D cA L T r σ ρ t.heap from by rw [ht]; exact hB.1)⟩, hS.F ht⟩) hS.2.2 dX12_in_18
set_option maxHeartbeats 4000000 in
set_option maxRecDepth 100000 in
theorem cy_X12_in_10_17 (l : Launch) (D : va_G) (cA : Nat → ClassId) (L : List Nat) (T : Nat → Nat) (r : Rg) (hG : GR L T r) (hL : L.Nodup) (σ : Sg) (ρ : Lg) (hW : WT L ry T σ) (sz : Nat) (p1 : Int32) : Met l yX12_in (.code yX12_in cX12_in 6 (some .boolean) :: wsA) ({ frames := 0, cells := 0, slots := 0, locals := 0 }) (PR D cA L T r σ ρ sz [.long p1.toInt64, .long 10, .long 17]) (QI D cA L T r ry ([] : List (Nat × Nat)) σ sz (fun x σ1 => ((x.toInt = 0 ∨ x.toInt = 1) ∧ (x.toInt = 1 → 10 ≤ p1.toInt ∧ p1.toInt ≤ 17)))) 0 0 (dm L sz) := by
  refine Met.ofW (cc := cX12_in) (maxL := 6) (ret := (some .boolean)) (by decide) rfl ?_
  intro p e s m args below meth c s₁ B hml hv
  obtain ⟨rfl, hsz, hP, hK, hN⟩ := hv
  have hx := B.exec
  have hb := B.bytes
  have hr := B.returns
  have hts : ∀ w ∈ wsA, w.before _ s = true := fun w h => atoms_spec (ws := .code yX12_in cX12_in 6 (some .boolean) :: wsA) B.pre w (List.mem_cons_of_mem _ h)
  have hown : s.vm.findClass RX12 = some m.cls := findClass_of_methodNamed B.named
  subst hsz
  have hLA : LA (dm L s.heap.size) L := ⟨hL, fun a h => Or.inl h⟩
  have hA : ∀ q : Nat, s.heap.size ≤ q → dm L s.heap.size q := fun q h => Or.inr h
  have hS : va_S (dm L s.heap.size) s.heap s.heap [] := va_S.rf
  have hB : TS D cA L T r ry ([] : List (Nat × Nat)) σ σ ρ s.heap := ⟨hP, hW, FR.rf⟩
  have hl := lv_entry ([.long p1.toInt64, .long 10, .long 17]) (n := 6) (Nat.le_of_ble_eq_true rfl)
  rw [lg_entry_eq]
  generalize (lg_sl ([.long p1.toInt64, .long 10, .long 17]) ++ List.replicate (6 - (lg_sl ([.long p1.toInt64, .long 10, .long 17])).length) Slot.unset).toArray = ls at hl ⊢
  have hl : lv_has ls 6 [(0, .long p1.toInt64), (2, .long 10), (4, .long 17)] := hl
  refine lv_lload_n hx hb dX12_in_0 rfl (lv_at hl 0 rfl) ?_
  refine lv_lload_n hx hb dX12_in_1 rfl (lv_at hl 1 rfl) ?_
  refine W.lcmp hx hb dX12_in_2 ?_
  refine lv_if_lt (tgt := 17) hx hb dX12_in_3 (by decide) (fun c_1 => ?_) (fun c_1 => ?_)
  · skip
    have uc_1 := l_lt (l_i p1) (by decide : (10 : Int64).toInt = 10) ((lg_cmp_lt _ _).mp c_1)
    refine lv_iconst (v := 0) hx hb dX12_in_17 (by decide) ?_
    exact W.zret (v := 0) hx hb hr rfl (fun t ht hW => ⟨⟨0, (σ, ρ), rfl, ⟨hB.2.1, hB.2.2, (show ((0 : Int32).toInt = 0 ∨ (0 : Int32).toInt = 1) ∧ ((0 : Int32).toInt = 1 → 10 ≤ p1.toInt ∧ p1.toInt ≤ 17) from ⟨Or.inl (by decide), fun h => absurd h (by decide)⟩)⟩, (show TP D cA L T r σ ρ t.heap from by rw [ht]; exact hB.1)⟩, hS.F ht⟩) hS.2.2 dX12_in_18
  · skip
    have uc_1 := l_nlt (l_i p1) (by decide : (10 : Int64).toInt = 10) (mt (lg_cmp_lt _ _).mpr c_1)
    refine lv_lload_n hx hb dX12_in_6 rfl (lv_at hl 0 rfl) ?_
    refine lv_lload hx hb dX12_in_7 (lv_at hl 2 rfl) ?_
    refine W.lcmp hx hb dX12_in_9 ?_
    refine lv_if_gt (tgt := 17) hx hb dX12_in_10 (by decide) (fun c_2 => ?_) (fun c_2 => ?_)
    · skip
      have uc_2 := l_lt (by decide : (17 : Int64).toInt = 17) (l_i p1) ((lg_cmp_gt _ _).mp c_2)
      refine lv_iconst (v := 0) hx hb dX12_in_17 (by decide) ?_
      exact W.zret (v := 0) hx hb hr rfl (fun t ht hW => ⟨⟨0, (σ, ρ), rfl, ⟨hB.2.1, hB.2.2, (show ((0 : Int32).toInt = 0 ∨ (0 : Int32).toInt = 1) ∧ ((0 : Int32).toInt = 1 → 10 ≤ p1.toInt ∧ p1.toInt ≤ 17) from ⟨Or.inl (by decide), fun h => absurd h (by decide)⟩)⟩, (show TP D cA L T r σ ρ t.heap from by rw [ht]; exact hB.1)⟩, hS.F ht⟩) hS.2.2 dX12_in_18
    · skip
      have uc_2 := l_nlt (by decide : (17 : Int64).toInt = 17) (l_i p1) (mt (lg_cmp_gt _ _).mpr c_2)
      refine lv_iconst (v := 1) hx hb dX12_in_13 (by decide) ?_
      refine lv_goto (tgt := 18) hx hb dX12_in_14 (by decide) ?_
      exact W.zret (v := 1) hx hb hr rfl (fun t ht hW => ⟨⟨1, (σ, ρ), rfl, ⟨hB.2.1, hB.2.2, (show ((1 : Int32).toInt = 0 ∨ (1 : Int32).toInt = 1) ∧ ((1 : Int32).toInt = 1 → 10 ≤ p1.toInt ∧ p1.toInt ≤ 17) from ⟨Or.inr (by decide), fun _ => by omega⟩)⟩, (show TP D cA L T r σ ρ t.heap from by rw [ht]; exact hB.1)⟩, hS.F ht⟩) hS.2.2 dX12_in_18
set_option maxHeartbeats 4000000 in
set_option maxRecDepth 100000 in
theorem cy_X12_in_1_10 (l : Launch) (D : va_G) (cA : Nat → ClassId) (L : List Nat) (T : Nat → Nat) (r : Rg) (hG : GR L T r) (hL : L.Nodup) (σ : Sg) (ρ : Lg) (hW : WT L ry T σ) (sz : Nat) (p1 : Int32) : Met l yX12_in (.code yX12_in cX12_in 6 (some .boolean) :: wsA) ({ frames := 0, cells := 0, slots := 0, locals := 0 }) (PR D cA L T r σ ρ sz [.long p1.toInt64, .long 1, .long 10]) (QI D cA L T r ry ([] : List (Nat × Nat)) σ sz (fun x σ1 => ((x.toInt = 0 ∨ x.toInt = 1) ∧ (x.toInt = 1 → 1 ≤ p1.toInt ∧ p1.toInt ≤ 10)))) 0 0 (dm L sz) := by
  refine Met.ofW (cc := cX12_in) (maxL := 6) (ret := (some .boolean)) (by decide) rfl ?_
  intro p e s m args below meth c s₁ B hml hv
  obtain ⟨rfl, hsz, hP, hK, hN⟩ := hv
  have hx := B.exec
  have hb := B.bytes
  have hr := B.returns
  have hts : ∀ w ∈ wsA, w.before _ s = true := fun w h => atoms_spec (ws := .code yX12_in cX12_in 6 (some .boolean) :: wsA) B.pre w (List.mem_cons_of_mem _ h)
  have hown : s.vm.findClass RX12 = some m.cls := findClass_of_methodNamed B.named
  subst hsz
  have hLA : LA (dm L s.heap.size) L := ⟨hL, fun a h => Or.inl h⟩
  have hA : ∀ q : Nat, s.heap.size ≤ q → dm L s.heap.size q := fun q h => Or.inr h
  have hS : va_S (dm L s.heap.size) s.heap s.heap [] := va_S.rf
  have hB : TS D cA L T r ry ([] : List (Nat × Nat)) σ σ ρ s.heap := ⟨hP, hW, FR.rf⟩
  have hl := lv_entry ([.long p1.toInt64, .long 1, .long 10]) (n := 6) (Nat.le_of_ble_eq_true rfl)
  rw [lg_entry_eq]
  generalize (lg_sl ([.long p1.toInt64, .long 1, .long 10]) ++ List.replicate (6 - (lg_sl ([.long p1.toInt64, .long 1, .long 10])).length) Slot.unset).toArray = ls at hl ⊢
  have hl : lv_has ls 6 [(0, .long p1.toInt64), (2, .long 1), (4, .long 10)] := hl
  refine lv_lload_n hx hb dX12_in_0 rfl (lv_at hl 0 rfl) ?_
  refine lv_lload_n hx hb dX12_in_1 rfl (lv_at hl 1 rfl) ?_
  refine W.lcmp hx hb dX12_in_2 ?_
  refine lv_if_lt (tgt := 17) hx hb dX12_in_3 (by decide) (fun c_1 => ?_) (fun c_1 => ?_)
  · skip
    have uc_1 := l_lt (l_i p1) (by decide : (1 : Int64).toInt = 1) ((lg_cmp_lt _ _).mp c_1)
    refine lv_iconst (v := 0) hx hb dX12_in_17 (by decide) ?_
    exact W.zret (v := 0) hx hb hr rfl (fun t ht hW => ⟨⟨0, (σ, ρ), rfl, ⟨hB.2.1, hB.2.2, (show ((0 : Int32).toInt = 0 ∨ (0 : Int32).toInt = 1) ∧ ((0 : Int32).toInt = 1 → 1 ≤ p1.toInt ∧ p1.toInt ≤ 10) from ⟨Or.inl (by decide), fun h => absurd h (by decide)⟩)⟩, (show TP D cA L T r σ ρ t.heap from by rw [ht]; exact hB.1)⟩, hS.F ht⟩) hS.2.2 dX12_in_18
  · skip
    have uc_1 := l_nlt (l_i p1) (by decide : (1 : Int64).toInt = 1) (mt (lg_cmp_lt _ _).mpr c_1)
    refine lv_lload_n hx hb dX12_in_6 rfl (lv_at hl 0 rfl) ?_
    refine lv_lload hx hb dX12_in_7 (lv_at hl 2 rfl) ?_
    refine W.lcmp hx hb dX12_in_9 ?_
    refine lv_if_gt (tgt := 17) hx hb dX12_in_10 (by decide) (fun c_2 => ?_) (fun c_2 => ?_)
    · skip
      have uc_2 := l_lt (by decide : (10 : Int64).toInt = 10) (l_i p1) ((lg_cmp_gt _ _).mp c_2)
      refine lv_iconst (v := 0) hx hb dX12_in_17 (by decide) ?_
      exact W.zret (v := 0) hx hb hr rfl (fun t ht hW => ⟨⟨0, (σ, ρ), rfl, ⟨hB.2.1, hB.2.2, (show ((0 : Int32).toInt = 0 ∨ (0 : Int32).toInt = 1) ∧ ((0 : Int32).toInt = 1 → 1 ≤ p1.toInt ∧ p1.toInt ≤ 10) from ⟨Or.inl (by decide), fun h => absurd h (by decide)⟩)⟩, (show TP D cA L T r σ ρ t.heap from by rw [ht]; exact hB.1)⟩, hS.F ht⟩) hS.2.2 dX12_in_18
    · skip
      have uc_2 := l_nlt (by decide : (10 : Int64).toInt = 10) (l_i p1) (mt (lg_cmp_gt _ _).mpr c_2)
      refine lv_iconst (v := 1) hx hb dX12_in_13 (by decide) ?_
      refine lv_goto (tgt := 18) hx hb dX12_in_14 (by decide) ?_
      exact W.zret (v := 1) hx hb hr rfl (fun t ht hW => ⟨⟨1, (σ, ρ), rfl, ⟨hB.2.1, hB.2.2, (show ((1 : Int32).toInt = 0 ∨ (1 : Int32).toInt = 1) ∧ ((1 : Int32).toInt = 1 → 1 ≤ p1.toInt ∧ p1.toInt ≤ 10) from ⟨Or.inr (by decide), fun _ => by omega⟩)⟩, (show TP D cA L T r σ ρ t.heap from by rw [ht]; exact hB.1)⟩, hS.F ht⟩) hS.2.2 dX12_in_18
set_option maxHeartbeats 4000000 in
set_option maxRecDepth 100000 in
theorem cy_X12_in_1_60 (l : Launch) (D : va_G) (cA : Nat → ClassId) (L : List Nat) (T : Nat → Nat) (r : Rg) (hG : GR L T r) (hL : L.Nodup) (σ : Sg) (ρ : Lg) (hW : WT L ry T σ) (sz : Nat) (p1 : Int32) : Met l yX12_in (.code yX12_in cX12_in 6 (some .boolean) :: wsA) ({ frames := 0, cells := 0, slots := 0, locals := 0 }) (PR D cA L T r σ ρ sz [.long p1.toInt64, .long 1, .long 60]) (QI D cA L T r ry ([] : List (Nat × Nat)) σ sz (fun x σ1 => ((x.toInt = 0 ∨ x.toInt = 1) ∧ (x.toInt = 1 → 1 ≤ p1.toInt ∧ p1.toInt ≤ 60)))) 0 0 (dm L sz) := by
  refine Met.ofW (cc := cX12_in) (maxL := 6) (ret := (some .boolean)) (by decide) rfl ?_
  intro p e s m args below meth c s₁ B hml hv
  obtain ⟨rfl, hsz, hP, hK, hN⟩ := hv
  have hx := B.exec
  have hb := B.bytes
  have hr := B.returns
  have hts : ∀ w ∈ wsA, w.before _ s = true := fun w h => atoms_spec (ws := .code yX12_in cX12_in 6 (some .boolean) :: wsA) B.pre w (List.mem_cons_of_mem _ h)
  have hown : s.vm.findClass RX12 = some m.cls := findClass_of_methodNamed B.named
  subst hsz
  have hLA : LA (dm L s.heap.size) L := ⟨hL, fun a h => Or.inl h⟩
  have hA : ∀ q : Nat, s.heap.size ≤ q → dm L s.heap.size q := fun q h => Or.inr h
  have hS : va_S (dm L s.heap.size) s.heap s.heap [] := va_S.rf
  have hB : TS D cA L T r ry ([] : List (Nat × Nat)) σ σ ρ s.heap := ⟨hP, hW, FR.rf⟩
  have hl := lv_entry ([.long p1.toInt64, .long 1, .long 60]) (n := 6) (Nat.le_of_ble_eq_true rfl)
  rw [lg_entry_eq]
  generalize (lg_sl ([.long p1.toInt64, .long 1, .long 60]) ++ List.replicate (6 - (lg_sl ([.long p1.toInt64, .long 1, .long 60])).length) Slot.unset).toArray = ls at hl ⊢
  have hl : lv_has ls 6 [(0, .long p1.toInt64), (2, .long 1), (4, .long 60)] := hl
  refine lv_lload_n hx hb dX12_in_0 rfl (lv_at hl 0 rfl) ?_
  refine lv_lload_n hx hb dX12_in_1 rfl (lv_at hl 1 rfl) ?_
  refine W.lcmp hx hb dX12_in_2 ?_
  refine lv_if_lt (tgt := 17) hx hb dX12_in_3 (by decide) (fun c_1 => ?_) (fun c_1 => ?_)
  · skip
    have uc_1 := l_lt (l_i p1) (by decide : (1 : Int64).toInt = 1) ((lg_cmp_lt _ _).mp c_1)
    refine lv_iconst (v := 0) hx hb dX12_in_17 (by decide) ?_
    exact W.zret (v := 0) hx hb hr rfl (fun t ht hW => ⟨⟨0, (σ, ρ), rfl, ⟨hB.2.1, hB.2.2, (show ((0 : Int32).toInt = 0 ∨ (0 : Int32).toInt = 1) ∧ ((0 : Int32).toInt = 1 → 1 ≤ p1.toInt ∧ p1.toInt ≤ 60) from ⟨Or.inl (by decide), fun h => absurd h (by decide)⟩)⟩, (show TP D cA L T r σ ρ t.heap from by rw [ht]; exact hB.1)⟩, hS.F ht⟩) hS.2.2 dX12_in_18
  · skip
    have uc_1 := l_nlt (l_i p1) (by decide : (1 : Int64).toInt = 1) (mt (lg_cmp_lt _ _).mpr c_1)
    refine lv_lload_n hx hb dX12_in_6 rfl (lv_at hl 0 rfl) ?_
    refine lv_lload hx hb dX12_in_7 (lv_at hl 2 rfl) ?_
    refine W.lcmp hx hb dX12_in_9 ?_
    refine lv_if_gt (tgt := 17) hx hb dX12_in_10 (by decide) (fun c_2 => ?_) (fun c_2 => ?_)
    · skip
      have uc_2 := l_lt (by decide : (60 : Int64).toInt = 60) (l_i p1) ((lg_cmp_gt _ _).mp c_2)
      refine lv_iconst (v := 0) hx hb dX12_in_17 (by decide) ?_
      exact W.zret (v := 0) hx hb hr rfl (fun t ht hW => ⟨⟨0, (σ, ρ), rfl, ⟨hB.2.1, hB.2.2, (show ((0 : Int32).toInt = 0 ∨ (0 : Int32).toInt = 1) ∧ ((0 : Int32).toInt = 1 → 1 ≤ p1.toInt ∧ p1.toInt ≤ 60) from ⟨Or.inl (by decide), fun h => absurd h (by decide)⟩)⟩, (show TP D cA L T r σ ρ t.heap from by rw [ht]; exact hB.1)⟩, hS.F ht⟩) hS.2.2 dX12_in_18
    · skip
      have uc_2 := l_nlt (by decide : (60 : Int64).toInt = 60) (l_i p1) (mt (lg_cmp_gt _ _).mpr c_2)
      refine lv_iconst (v := 1) hx hb dX12_in_13 (by decide) ?_
      refine lv_goto (tgt := 18) hx hb dX12_in_14 (by decide) ?_
      exact W.zret (v := 1) hx hb hr rfl (fun t ht hW => ⟨⟨1, (σ, ρ), rfl, ⟨hB.2.1, hB.2.2, (show ((1 : Int32).toInt = 0 ∨ (1 : Int32).toInt = 1) ∧ ((1 : Int32).toInt = 1 → 1 ≤ p1.toInt ∧ p1.toInt ≤ 60) from ⟨Or.inr (by decide), fun _ => by omega⟩)⟩, (show TP D cA L T r σ ρ t.heap from by rw [ht]; exact hB.1)⟩, hS.F ht⟩) hS.2.2 dX12_in_18
theorem mw_5_218 : (.fieldLink RX12 276 "HillBendsModel" "rules" "I" : Cond) ∈ wsA := wsA_t (List.mem_append_right _ (List.mem_append_right _ (List.mem_append_right _ (List.mem_append_right _ (List.mem_append_left _ (List.mem_of_getElem? (l := tables_1_5) (i := 218) rfl)))))) rfl
theorem dX12_isRule_0 : decode cX12_isRule 0 = .ok (.iload_n 1, 1) := by decide +kernel
theorem dX12_isRule_1 : decode cX12_isRule 1 = .ok (.ifCond .lt 15, 3) := by decide +kernel
theorem dX12_isRule_16 : decode cX12_isRule 16 = .ok (.iconst 0, 1) := by decide +kernel
theorem dX12_isRule_17 : decode cX12_isRule 17 = .ok (.ireturn, 1) := by decide +kernel
theorem dX12_isRule_4 : decode cX12_isRule 4 = .ok (.iload_n 1, 1) := by decide +kernel
theorem dX12_isRule_5 : decode cX12_isRule 5 = .ok (.aload_n 0, 1) := by decide +kernel
theorem dX12_isRule_6 : decode cX12_isRule 6 = .ok (.getfield 276, 3) := by decide +kernel
theorem dX12_isRule_9 : decode cX12_isRule 9 = .ok (.if_icmp .ge 7, 3) := by decide +kernel
theorem dX12_isRule_12 : decode cX12_isRule 12 = .ok (.iconst 1, 1) := by decide +kernel
theorem dX12_isRule_13 : decode cX12_isRule 13 = .ok (.goto 4, 3) := by decide +kernel
set_option maxHeartbeats 4000000 in
set_option maxRecDepth 100000 in
theorem cy_X12_isRule (l : Launch) (D : va_G) (cA : Nat → ClassId) (L : List Nat) (T : Nat → Nat) (r : Rg) (hG : GR L T r) (hL : L.Nodup) (σ : Sg) (ρ : Lg) (hW : WT L ry T σ) (sz : Nat) (h0 : Nat) (mh0 : h0 ∈ L) (th0 : T h0 = 12) (p1 : Int32) : Met l yX12_isRule (.code yX12_isRule cX12_isRule 2 (some .boolean) :: wsA) ({ frames := 0, cells := 0, slots := 0, locals := 0 }) (PR D cA L T r σ ρ sz [.ref h0, .int p1]) (QI D cA L T r ry ([] : List (Nat × Nat)) σ sz (fun x σ1 => ((x.toInt = 0 ∨ x.toInt = 1) ∧ (x.toInt = 1 → 0 ≤ p1.toInt ∧ p1.toInt ≤ 5)))) 0 0 (dm L sz) := by
  refine Met.ofW (cc := cX12_isRule) (maxL := 2) (ret := (some .boolean)) (by decide) rfl ?_
  intro p e s m args below meth c s₁ B hml hv
  obtain ⟨rfl, hsz, hP, hK, hN⟩ := hv
  have hx := B.exec
  have hb := B.bytes
  have hr := B.returns
  have hts : ∀ w ∈ wsA, w.before _ s = true := fun w h => atoms_spec (ws := .code yX12_isRule cX12_isRule 2 (some .boolean) :: wsA) B.pre w (List.mem_cons_of_mem _ h)
  have hown : s.vm.findClass RX12 = some m.cls := findClass_of_methodNamed B.named
  subst hsz
  have hLA : LA (dm L s.heap.size) L := ⟨hL, fun a h => Or.inl h⟩
  have hA : ∀ q : Nat, s.heap.size ≤ q → dm L s.heap.size q := fun q h => Or.inr h
  have hS : va_S (dm L s.heap.size) s.heap s.heap [] := va_S.rf
  have hB : TS D cA L T r ry ([] : List (Nat × Nat)) σ σ ρ s.heap := ⟨hP, hW, FR.rf⟩
  have hl := lv_entry ([.ref h0, .int p1]) (n := 2) (Nat.le_of_ble_eq_true rfl)
  rw [lg_entry_eq]
  generalize (lg_sl ([.ref h0, .int p1]) ++ List.replicate (2 - (lg_sl ([.ref h0, .int p1])).length) Slot.unset).toArray = ls at hl ⊢
  have hl : lv_has ls 2 [(0, .ref h0), (1, .int p1)] := hl
  refine lv_iload_n hx hb dX12_isRule_0 rfl (lv_at hl 1 rfl) ?_
  refine lv_if_lt (tgt := 16) hx hb dX12_isRule_1 (by decide) (fun c_1 => ?_) (fun c_1 => ?_)
  · skip
    have uc_1 := i_lt (n := 0) (by decide) c_1
    refine lv_iconst (v := 0) hx hb dX12_isRule_16 (by decide) ?_
    exact W.zret (v := 0) hx hb hr rfl (fun t ht hW => ⟨⟨0, (σ, ρ), rfl, ⟨hB.2.1, hB.2.2, (show ((0 : Int32).toInt = 0 ∨ (0 : Int32).toInt = 1) ∧ ((0 : Int32).toInt = 1 → 0 ≤ p1.toInt ∧ p1.toInt ≤ 5) from ⟨Or.inl (by decide), fun h => absurd h (by decide)⟩)⟩, (show TP D cA L T r σ ρ t.heap from by rw [ht]; exact hB.1)⟩, hS.F ht⟩) hS.2.2 dX12_isRule_17
  · skip
    have uc_1 := i_nlt (n := 0) (by decide) c_1
    refine lv_iload_n hx hb dX12_isRule_4 rfl (lv_at hl 1 rfl) ?_
    refine lv_aload_n hx hb dX12_isRule_5 rfl (lv_at hl 0 rfl) ?_
    refine t_gi hx hb hts hown hK hB mh0 th0 fi_12_2 rfl mw_5_218 dX12_isRule_6 (fun x_2 ex_2 lx_2 ux_2 => ?_)
    have cx_2 := congrArg Int32.toInt ex_2
    refine lv_icmp_ge (tgt := 16) hx hb dX12_isRule_9 (by decide) (fun c_3 => ?_) (fun c_3 => ?_)
    · skip
      have uc_3 := j_le c_3
      refine lv_iconst (v := 0) hx hb dX12_isRule_16 (by decide) ?_
      exact W.zret (v := 0) hx hb hr rfl (fun t ht hW => ⟨⟨0, (σ, ρ), rfl, ⟨hB.2.1, hB.2.2, (show ((0 : Int32).toInt = 0 ∨ (0 : Int32).toInt = 1) ∧ ((0 : Int32).toInt = 1 → 0 ≤ p1.toInt ∧ p1.toInt ≤ 5) from ⟨Or.inl (by decide), fun h => absurd h (by decide)⟩)⟩, (show TP D cA L T r σ ρ t.heap from by rw [ht]; exact hB.1)⟩, hS.F ht⟩) hS.2.2 dX12_isRule_17
    · skip
      have uc_3 := j_nle c_3
      refine lv_iconst (v := 1) hx hb dX12_isRule_12 (by decide) ?_
      refine lv_goto (tgt := 17) hx hb dX12_isRule_13 (by decide) ?_
      exact W.zret (v := 1) hx hb hr rfl (fun t ht hW => ⟨⟨1, (σ, ρ), rfl, ⟨hB.2.1, hB.2.2, (show ((1 : Int32).toInt = 0 ∨ (1 : Int32).toInt = 1) ∧ ((1 : Int32).toInt = 1 → 0 ≤ p1.toInt ∧ p1.toInt ≤ 5) from ⟨Or.inr (by decide), fun _ => by omega⟩)⟩, (show TP D cA L T r σ ρ t.heap from by rw [ht]; exact hB.1)⟩, hS.F ht⟩) hS.2.2 dX12_isRule_17
theorem mw_5_236 : (.fieldLink RX12 39 "HillBendsModel" "said" "[I" : Cond) ∈ wsA := wsA_t (List.mem_append_right _ (List.mem_append_right _ (List.mem_append_right _ (List.mem_append_right _ (List.mem_append_left _ (List.mem_of_getElem? (l := tables_1_5) (i := 236) rfl)))))) rfl
theorem dX12_isHill_0 : decode cX12_isHill 0 = .ok (.aload_n 0, 1) := by decide +kernel
theorem dX12_isHill_1 : decode cX12_isHill 1 = .ok (.getfield 39, 3) := by decide +kernel
theorem dX12_isHill_4 : decode cX12_isHill 4 = .ok (.iconst 0, 1) := by decide +kernel
theorem dX12_isHill_5 : decode cX12_isHill 5 = .ok (.iaload, 1) := by decide +kernel
theorem dX12_isHill_6 : decode cX12_isHill 6 = .ok (.ifCond .le 7, 3) := by decide +kernel
theorem dX12_isHill_13 : decode cX12_isHill 13 = .ok (.iconst 0, 1) := by decide +kernel
theorem dX12_isHill_14 : decode cX12_isHill 14 = .ok (.ireturn, 1) := by decide +kernel
theorem dX12_isHill_9 : decode cX12_isHill 9 = .ok (.iconst 1, 1) := by decide +kernel
theorem dX12_isHill_10 : decode cX12_isHill 10 = .ok (.goto 4, 3) := by decide +kernel
set_option maxHeartbeats 4000000 in
set_option maxRecDepth 100000 in
theorem cy_X12_isHill (l : Launch) (D : va_G) (cA : Nat → ClassId) (L : List Nat) (T : Nat → Nat) (r : Rg) (hG : GR L T r) (hL : L.Nodup) (σ : Sg) (ρ : Lg) (hW : WT L ry T σ) (sz : Nat) (h0 : Nat) (mh0 : h0 ∈ L) (th0 : T h0 = 12) : Met l yX12_isHill (.code yX12_isHill cX12_isHill 1 (some .boolean) :: wsA) ({ frames := 0, cells := 0, slots := 0, locals := 0 }) (PR D cA L T r σ ρ sz [.ref h0]) (QI D cA L T r ry ([] : List (Nat × Nat)) σ sz (fun x σ1 => (0 ≤ x.toInt ∧ x.toInt ≤ 1))) 0 0 (dm L sz) := by
  refine Met.ofW (cc := cX12_isHill) (maxL := 1) (ret := (some .boolean)) (by decide) rfl ?_
  intro p e s m args below meth c s₁ B hml hv
  obtain ⟨rfl, hsz, hP, hK, hN⟩ := hv
  have hx := B.exec
  have hb := B.bytes
  have hr := B.returns
  have hts : ∀ w ∈ wsA, w.before _ s = true := fun w h => atoms_spec (ws := .code yX12_isHill cX12_isHill 1 (some .boolean) :: wsA) B.pre w (List.mem_cons_of_mem _ h)
  have hown : s.vm.findClass RX12 = some m.cls := findClass_of_methodNamed B.named
  subst hsz
  have hLA : LA (dm L s.heap.size) L := ⟨hL, fun a h => Or.inl h⟩
  have hA : ∀ q : Nat, s.heap.size ≤ q → dm L s.heap.size q := fun q h => Or.inr h
  have hS : va_S (dm L s.heap.size) s.heap s.heap [] := va_S.rf
  have hB : TS D cA L T r ry ([] : List (Nat × Nat)) σ σ ρ s.heap := ⟨hP, hW, FR.rf⟩
  have hl := lv_entry ([.ref h0]) (n := 1) (Nat.le_of_ble_eq_true rfl)
  rw [lg_entry_eq]
  generalize (lg_sl ([.ref h0]) ++ List.replicate (1 - (lg_sl ([.ref h0])).length) Slot.unset).toArray = ls at hl ⊢
  have hl : lv_has ls 1 [(0, .ref h0)] := hl
  refine lv_aload_n hx hb dX12_isHill_0 rfl (lv_at hl 0 rfl) ?_
  refine t_gr hx hb hts hown hK hG hB mh0 th0 fq_12_20 rfl mw_5_236 dX12_isHill_1 (fun b_1 hb_1 mb_1 tb_1 => ?_)
  refine lv_iconst (v := 0) hx hb dX12_isHill_4 (by decide) ?_
  refine t_aj hx hb hK hB mb_1 tb_1 ai_70 (i_in (by decide) (by decide)) dX12_isHill_5 (fun x_2 ex_2 lx_2 ux_2 => ?_)
  have lx_2 : (-2147483648) ≤ x_2.toInt := lx_2
  have ux_2 : x_2.toInt ≤ 2147483647 := ux_2
  have cx_2 := congrArg Int32.toInt ex_2
  refine lv_if_le (tgt := 13) hx hb dX12_isHill_6 (by decide) (fun c_3 => ?_) (fun c_3 => ?_)
  · skip
    have uc_3 := i_le (n := 0) (by decide) c_3
    refine lv_iconst (v := 0) hx hb dX12_isHill_13 (by decide) ?_
    exact W.zret (v := 0) hx hb hr rfl (fun t ht hW => ⟨⟨0, (σ, ρ), rfl, ⟨hB.2.1, hB.2.2, (show 0 ≤ (0 : Int32).toInt ∧ (0 : Int32).toInt ≤ 1 from ⟨by decide, by decide⟩)⟩, (show TP D cA L T r σ ρ t.heap from by rw [ht]; exact hB.1)⟩, hS.F ht⟩) hS.2.2 dX12_isHill_14
  · skip
    have uc_3 := i_nle (n := 0) (by decide) c_3
    refine lv_iconst (v := 1) hx hb dX12_isHill_9 (by decide) ?_
    refine lv_goto (tgt := 14) hx hb dX12_isHill_10 (by decide) ?_
    exact W.zret (v := 1) hx hb hr rfl (fun t ht hW => ⟨⟨1, (σ, ρ), rfl, ⟨hB.2.1, hB.2.2, (show 0 ≤ (1 : Int32).toInt ∧ (1 : Int32).toInt ≤ 1 from ⟨by decide, by decide⟩)⟩, (show TP D cA L T r σ ρ t.heap from by rw [ht]; exact hB.1)⟩, hS.F ht⟩) hS.2.2 dX12_isHill_14
theorem dX12_isSort_0 : decode cX12_isSort 0 = .ok (.iload_n 1, 1) := by decide +kernel
theorem dX12_isSort_1 : decode cX12_isSort 1 = .ok (.ifCond .lt 17, 3) := by decide +kernel
theorem dX12_isSort_18 : decode cX12_isSort 18 = .ok (.iconst 0, 1) := by decide +kernel
theorem dX12_isSort_19 : decode cX12_isSort 19 = .ok (.ireturn, 1) := by decide +kernel
theorem dX12_isSort_4 : decode cX12_isSort 4 = .ok (.iload_n 1, 1) := by decide +kernel
theorem dX12_isSort_5 : decode cX12_isSort 5 = .ok (.aload_n 0, 1) := by decide +kernel
theorem dX12_isSort_6 : decode cX12_isSort 6 = .ok (.getfield 39, 3) := by decide +kernel
theorem dX12_isSort_9 : decode cX12_isSort 9 = .ok (.iconst 1, 1) := by decide +kernel
theorem dX12_isSort_10 : decode cX12_isSort 10 = .ok (.iaload, 1) := by decide +kernel
theorem dX12_isSort_11 : decode cX12_isSort 11 = .ok (.if_icmp .ge 7, 3) := by decide +kernel
theorem dX12_isSort_14 : decode cX12_isSort 14 = .ok (.iconst 1, 1) := by decide +kernel
theorem dX12_isSort_15 : decode cX12_isSort 15 = .ok (.goto 4, 3) := by decide +kernel
set_option maxHeartbeats 4000000 in
set_option maxRecDepth 100000 in
theorem cy_X12_isSort (l : Launch) (D : va_G) (cA : Nat → ClassId) (L : List Nat) (T : Nat → Nat) (r : Rg) (hG : GR L T r) (hL : L.Nodup) (σ : Sg) (ρ : Lg) (hW : WT L ry T σ) (sz : Nat) (h0 : Nat) (mh0 : h0 ∈ L) (th0 : T h0 = 12) (p1 : Int32) : Met l yX12_isSort (.code yX12_isSort cX12_isSort 2 (some .boolean) :: wsA) ({ frames := 0, cells := 0, slots := 0, locals := 0 }) (PR D cA L T r σ ρ sz [.ref h0, .int p1]) (QI D cA L T r ry ([] : List (Nat × Nat)) σ sz (fun x σ1 => ((x.toInt = 0 ∨ x.toInt = 1) ∧ (x.toInt = 1 → 0 ≤ p1.toInt ∧ p1.toInt ≤ 4)))) 0 0 (dm L sz) := by
  refine Met.ofW (cc := cX12_isSort) (maxL := 2) (ret := (some .boolean)) (by decide) rfl ?_
  intro p e s m args below meth c s₁ B hml hv
  obtain ⟨rfl, hsz, hP, hK, hN⟩ := hv
  have hx := B.exec
  have hb := B.bytes
  have hr := B.returns
  have hts : ∀ w ∈ wsA, w.before _ s = true := fun w h => atoms_spec (ws := .code yX12_isSort cX12_isSort 2 (some .boolean) :: wsA) B.pre w (List.mem_cons_of_mem _ h)
  have hown : s.vm.findClass RX12 = some m.cls := findClass_of_methodNamed B.named
  subst hsz
  have hLA : LA (dm L s.heap.size) L := ⟨hL, fun a h => Or.inl h⟩
  have hA : ∀ q : Nat, s.heap.size ≤ q → dm L s.heap.size q := fun q h => Or.inr h
  have hS : va_S (dm L s.heap.size) s.heap s.heap [] := va_S.rf
  have hB : TS D cA L T r ry ([] : List (Nat × Nat)) σ σ ρ s.heap := ⟨hP, hW, FR.rf⟩
  have hl := lv_entry ([.ref h0, .int p1]) (n := 2) (Nat.le_of_ble_eq_true rfl)
  rw [lg_entry_eq]
  generalize (lg_sl ([.ref h0, .int p1]) ++ List.replicate (2 - (lg_sl ([.ref h0, .int p1])).length) Slot.unset).toArray = ls at hl ⊢
  have hl : lv_has ls 2 [(0, .ref h0), (1, .int p1)] := hl
  refine lv_iload_n hx hb dX12_isSort_0 rfl (lv_at hl 1 rfl) ?_
  refine lv_if_lt (tgt := 18) hx hb dX12_isSort_1 (by decide) (fun c_1 => ?_) (fun c_1 => ?_)
  · skip
    have uc_1 := i_lt (n := 0) (by decide) c_1
    refine lv_iconst (v := 0) hx hb dX12_isSort_18 (by decide) ?_
    exact W.zret (v := 0) hx hb hr rfl (fun t ht hW => ⟨⟨0, (σ, ρ), rfl, ⟨hB.2.1, hB.2.2, (show ((0 : Int32).toInt = 0 ∨ (0 : Int32).toInt = 1) ∧ ((0 : Int32).toInt = 1 → 0 ≤ p1.toInt ∧ p1.toInt ≤ 4) from ⟨Or.inl (by decide), fun h => absurd h (by decide)⟩)⟩, (show TP D cA L T r σ ρ t.heap from by rw [ht]; exact hB.1)⟩, hS.F ht⟩) hS.2.2 dX12_isSort_19
  · skip
    have uc_1 := i_nlt (n := 0) (by decide) c_1
    refine lv_iload_n hx hb dX12_isSort_4 rfl (lv_at hl 1 rfl) ?_
    refine lv_aload_n hx hb dX12_isSort_5 rfl (lv_at hl 0 rfl) ?_
    refine t_gr hx hb hts hown hK hG hB mh0 th0 fq_12_20 rfl mw_5_236 dX12_isSort_6 (fun b_2 hb_2 mb_2 tb_2 => ?_)
    refine lv_iconst (v := 1) hx hb dX12_isSort_9 (by decide) ?_
    refine t_aj hx hb hK hB mb_2 tb_2 ai_70 (i_in (by decide) (by decide)) dX12_isSort_10 (fun x_3 ex_3 lx_3 ux_3 => ?_)
    have lx_3 : 0 ≤ x_3.toInt := lx_3
    have ux_3 : x_3.toInt ≤ 5 := ux_3
    have cx_3 := congrArg Int32.toInt ex_3
    refine lv_icmp_ge (tgt := 18) hx hb dX12_isSort_11 (by decide) (fun c_4 => ?_) (fun c_4 => ?_)
    · skip
      have uc_4 := j_le c_4
      refine lv_iconst (v := 0) hx hb dX12_isSort_18 (by decide) ?_
      exact W.zret (v := 0) hx hb hr rfl (fun t ht hW => ⟨⟨0, (σ, ρ), rfl, ⟨hB.2.1, hB.2.2, (show ((0 : Int32).toInt = 0 ∨ (0 : Int32).toInt = 1) ∧ ((0 : Int32).toInt = 1 → 0 ≤ p1.toInt ∧ p1.toInt ≤ 4) from ⟨Or.inl (by decide), fun h => absurd h (by decide)⟩)⟩, (show TP D cA L T r σ ρ t.heap from by rw [ht]; exact hB.1)⟩, hS.F ht⟩) hS.2.2 dX12_isSort_19
    · skip
      have uc_4 := j_nle c_4
      refine lv_iconst (v := 1) hx hb dX12_isSort_14 (by decide) ?_
      refine lv_goto (tgt := 19) hx hb dX12_isSort_15 (by decide) ?_
      exact W.zret (v := 1) hx hb hr rfl (fun t ht hW => ⟨⟨1, (σ, ρ), rfl, ⟨hB.2.1, hB.2.2, (show ((1 : Int32).toInt = 0 ∨ (1 : Int32).toInt = 1) ∧ ((1 : Int32).toInt = 1 → 0 ≤ p1.toInt ∧ p1.toInt ≤ 4) from ⟨Or.inr (by decide), fun _ => by omega⟩)⟩, (show TP D cA L T r σ ρ t.heap from by rw [ht]; exact hB.1)⟩, hS.F ht⟩) hS.2.2 dX12_isSort_19
theorem dX12_isBend_0 : decode cX12_isBend 0 = .ok (.iload_n 1, 1) := by decide +kernel
theorem dX12_isBend_1 : decode cX12_isBend 1 = .ok (.ifCond .lt 17, 3) := by decide +kernel
theorem dX12_isBend_18 : decode cX12_isBend 18 = .ok (.iconst 0, 1) := by decide +kernel
theorem dX12_isBend_19 : decode cX12_isBend 19 = .ok (.ireturn, 1) := by decide +kernel
theorem dX12_isBend_4 : decode cX12_isBend 4 = .ok (.iload_n 1, 1) := by decide +kernel
theorem dX12_isBend_5 : decode cX12_isBend 5 = .ok (.aload_n 0, 1) := by decide +kernel
theorem dX12_isBend_6 : decode cX12_isBend 6 = .ok (.getfield 39, 3) := by decide +kernel
theorem dX12_isBend_9 : decode cX12_isBend 9 = .ok (.iconst 2, 1) := by decide +kernel
theorem dX12_isBend_10 : decode cX12_isBend 10 = .ok (.iaload, 1) := by decide +kernel
theorem dX12_isBend_11 : decode cX12_isBend 11 = .ok (.if_icmp .ge 7, 3) := by decide +kernel
theorem dX12_isBend_14 : decode cX12_isBend 14 = .ok (.iconst 1, 1) := by decide +kernel
theorem dX12_isBend_15 : decode cX12_isBend 15 = .ok (.goto 4, 3) := by decide +kernel
set_option maxHeartbeats 4000000 in
set_option maxRecDepth 100000 in
theorem cy_X12_isBend (l : Launch) (D : va_G) (cA : Nat → ClassId) (L : List Nat) (T : Nat → Nat) (r : Rg) (hG : GR L T r) (hL : L.Nodup) (σ : Sg) (ρ : Lg) (hW : WT L ry T σ) (sz : Nat) (h0 : Nat) (mh0 : h0 ∈ L) (th0 : T h0 = 12) (p1 : Int32) : Met l yX12_isBend (.code yX12_isBend cX12_isBend 2 (some .boolean) :: wsA) ({ frames := 0, cells := 0, slots := 0, locals := 0 }) (PR D cA L T r σ ρ sz [.ref h0, .int p1]) (QI D cA L T r ry ([] : List (Nat × Nat)) σ sz (fun x σ1 => ((x.toInt = 0 ∨ x.toInt = 1) ∧ (x.toInt = 1 → 0 ≤ p1.toInt ∧ p1.toInt ≤ 7)))) 0 0 (dm L sz) := by
  refine Met.ofW (cc := cX12_isBend) (maxL := 2) (ret := (some .boolean)) (by decide) rfl ?_
  intro p e s m args below meth c s₁ B hml hv
  obtain ⟨rfl, hsz, hP, hK, hN⟩ := hv
  have hx := B.exec
  have hb := B.bytes
  have hr := B.returns
  have hts : ∀ w ∈ wsA, w.before _ s = true := fun w h => atoms_spec (ws := .code yX12_isBend cX12_isBend 2 (some .boolean) :: wsA) B.pre w (List.mem_cons_of_mem _ h)
  have hown : s.vm.findClass RX12 = some m.cls := findClass_of_methodNamed B.named
  subst hsz
  have hLA : LA (dm L s.heap.size) L := ⟨hL, fun a h => Or.inl h⟩
  have hA : ∀ q : Nat, s.heap.size ≤ q → dm L s.heap.size q := fun q h => Or.inr h
  have hS : va_S (dm L s.heap.size) s.heap s.heap [] := va_S.rf
  have hB : TS D cA L T r ry ([] : List (Nat × Nat)) σ σ ρ s.heap := ⟨hP, hW, FR.rf⟩
  have hl := lv_entry ([.ref h0, .int p1]) (n := 2) (Nat.le_of_ble_eq_true rfl)
  rw [lg_entry_eq]
  generalize (lg_sl ([.ref h0, .int p1]) ++ List.replicate (2 - (lg_sl ([.ref h0, .int p1])).length) Slot.unset).toArray = ls at hl ⊢
  have hl : lv_has ls 2 [(0, .ref h0), (1, .int p1)] := hl
  refine lv_iload_n hx hb dX12_isBend_0 rfl (lv_at hl 1 rfl) ?_
  refine lv_if_lt (tgt := 18) hx hb dX12_isBend_1 (by decide) (fun c_1 => ?_) (fun c_1 => ?_)
  · skip
    have uc_1 := i_lt (n := 0) (by decide) c_1
    refine lv_iconst (v := 0) hx hb dX12_isBend_18 (by decide) ?_
    exact W.zret (v := 0) hx hb hr rfl (fun t ht hW => ⟨⟨0, (σ, ρ), rfl, ⟨hB.2.1, hB.2.2, (show ((0 : Int32).toInt = 0 ∨ (0 : Int32).toInt = 1) ∧ ((0 : Int32).toInt = 1 → 0 ≤ p1.toInt ∧ p1.toInt ≤ 7) from ⟨Or.inl (by decide), fun h => absurd h (by decide)⟩)⟩, (show TP D cA L T r σ ρ t.heap from by rw [ht]; exact hB.1)⟩, hS.F ht⟩) hS.2.2 dX12_isBend_19
  · skip
    have uc_1 := i_nlt (n := 0) (by decide) c_1
    refine lv_iload_n hx hb dX12_isBend_4 rfl (lv_at hl 1 rfl) ?_
    refine lv_aload_n hx hb dX12_isBend_5 rfl (lv_at hl 0 rfl) ?_
    refine t_gr hx hb hts hown hK hG hB mh0 th0 fq_12_20 rfl mw_5_236 dX12_isBend_6 (fun b_2 hb_2 mb_2 tb_2 => ?_)
    refine lv_iconst (v := 2) hx hb dX12_isBend_9 (by decide) ?_
    refine t_aj hx hb hK hB mb_2 tb_2 ai_70 (i_in (by decide) (by decide)) dX12_isBend_10 (fun x_3 ex_3 lx_3 ux_3 => ?_)
    have lx_3 : 0 ≤ x_3.toInt := lx_3
    have ux_3 : x_3.toInt ≤ 8 := ux_3
    have cx_3 := congrArg Int32.toInt ex_3
    refine lv_icmp_ge (tgt := 18) hx hb dX12_isBend_11 (by decide) (fun c_4 => ?_) (fun c_4 => ?_)
    · skip
      have uc_4 := j_le c_4
      refine lv_iconst (v := 0) hx hb dX12_isBend_18 (by decide) ?_
      exact W.zret (v := 0) hx hb hr rfl (fun t ht hW => ⟨⟨0, (σ, ρ), rfl, ⟨hB.2.1, hB.2.2, (show ((0 : Int32).toInt = 0 ∨ (0 : Int32).toInt = 1) ∧ ((0 : Int32).toInt = 1 → 0 ≤ p1.toInt ∧ p1.toInt ≤ 7) from ⟨Or.inl (by decide), fun h => absurd h (by decide)⟩)⟩, (show TP D cA L T r σ ρ t.heap from by rw [ht]; exact hB.1)⟩, hS.F ht⟩) hS.2.2 dX12_isBend_19
    · skip
      have uc_4 := j_nle c_4
      refine lv_iconst (v := 1) hx hb dX12_isBend_14 (by decide) ?_
      refine lv_goto (tgt := 19) hx hb dX12_isBend_15 (by decide) ?_
      exact W.zret (v := 1) hx hb hr rfl (fun t ht hW => ⟨⟨1, (σ, ρ), rfl, ⟨hB.2.1, hB.2.2, (show ((1 : Int32).toInt = 0 ∨ (1 : Int32).toInt = 1) ∧ ((1 : Int32).toInt = 1 → 0 ≤ p1.toInt ∧ p1.toInt ≤ 7) from ⟨Or.inr (by decide), fun _ => by omega⟩)⟩, (show TP D cA L T r σ ρ t.heap from by rw [ht]; exact hB.1)⟩, hS.F ht⟩) hS.2.2 dX12_isBend_19
theorem dX12_isPilgrim_0 : decode cX12_isPilgrim 0 = .ok (.iload_n 1, 1) := by decide +kernel
theorem dX12_isPilgrim_1 : decode cX12_isPilgrim 1 = .ok (.ifCond .lt 17, 3) := by decide +kernel
theorem dX12_isPilgrim_18 : decode cX12_isPilgrim 18 = .ok (.iconst 0, 1) := by decide +kernel
theorem dX12_isPilgrim_19 : decode cX12_isPilgrim 19 = .ok (.ireturn, 1) := by decide +kernel
theorem dX12_isPilgrim_4 : decode cX12_isPilgrim 4 = .ok (.iload_n 1, 1) := by decide +kernel
theorem dX12_isPilgrim_5 : decode cX12_isPilgrim 5 = .ok (.aload_n 0, 1) := by decide +kernel
theorem dX12_isPilgrim_6 : decode cX12_isPilgrim 6 = .ok (.getfield 39, 3) := by decide +kernel
theorem dX12_isPilgrim_9 : decode cX12_isPilgrim 9 = .ok (.iconst 3, 1) := by decide +kernel
theorem dX12_isPilgrim_10 : decode cX12_isPilgrim 10 = .ok (.iaload, 1) := by decide +kernel
theorem dX12_isPilgrim_11 : decode cX12_isPilgrim 11 = .ok (.if_icmp .ge 7, 3) := by decide +kernel
theorem dX12_isPilgrim_14 : decode cX12_isPilgrim 14 = .ok (.iconst 1, 1) := by decide +kernel
theorem dX12_isPilgrim_15 : decode cX12_isPilgrim 15 = .ok (.goto 4, 3) := by decide +kernel
set_option maxHeartbeats 4000000 in
set_option maxRecDepth 100000 in
theorem cy_X12_isPilgrim (l : Launch) (D : va_G) (cA : Nat → ClassId) (L : List Nat) (T : Nat → Nat) (r : Rg) (hG : GR L T r) (hL : L.Nodup) (σ : Sg) (ρ : Lg) (hW : WT L ry T σ) (sz : Nat) (h0 : Nat) (mh0 : h0 ∈ L) (th0 : T h0 = 12) (p1 : Int32) : Met l yX12_isPilgrim (.code yX12_isPilgrim cX12_isPilgrim 2 (some .boolean) :: wsA) ({ frames := 0, cells := 0, slots := 0, locals := 0 }) (PR D cA L T r σ ρ sz [.ref h0, .int p1]) (QI D cA L T r ry ([] : List (Nat × Nat)) σ sz (fun x σ1 => ((x.toInt = 0 ∨ x.toInt = 1) ∧ (x.toInt = 1 → 0 ≤ p1.toInt ∧ p1.toInt ≤ 3)))) 0 0 (dm L sz) := by
  refine Met.ofW (cc := cX12_isPilgrim) (maxL := 2) (ret := (some .boolean)) (by decide) rfl ?_
  intro p e s m args below meth c s₁ B hml hv
  obtain ⟨rfl, hsz, hP, hK, hN⟩ := hv
  have hx := B.exec
  have hb := B.bytes
  have hr := B.returns
  have hts : ∀ w ∈ wsA, w.before _ s = true := fun w h => atoms_spec (ws := .code yX12_isPilgrim cX12_isPilgrim 2 (some .boolean) :: wsA) B.pre w (List.mem_cons_of_mem _ h)
  have hown : s.vm.findClass RX12 = some m.cls := findClass_of_methodNamed B.named
  subst hsz
  have hLA : LA (dm L s.heap.size) L := ⟨hL, fun a h => Or.inl h⟩
  have hA : ∀ q : Nat, s.heap.size ≤ q → dm L s.heap.size q := fun q h => Or.inr h
  have hS : va_S (dm L s.heap.size) s.heap s.heap [] := va_S.rf
  have hB : TS D cA L T r ry ([] : List (Nat × Nat)) σ σ ρ s.heap := ⟨hP, hW, FR.rf⟩
  have hl := lv_entry ([.ref h0, .int p1]) (n := 2) (Nat.le_of_ble_eq_true rfl)
  rw [lg_entry_eq]
  generalize (lg_sl ([.ref h0, .int p1]) ++ List.replicate (2 - (lg_sl ([.ref h0, .int p1])).length) Slot.unset).toArray = ls at hl ⊢
  have hl : lv_has ls 2 [(0, .ref h0), (1, .int p1)] := hl
  refine lv_iload_n hx hb dX12_isPilgrim_0 rfl (lv_at hl 1 rfl) ?_
  refine lv_if_lt (tgt := 18) hx hb dX12_isPilgrim_1 (by decide) (fun c_1 => ?_) (fun c_1 => ?_)
  · skip
    have uc_1 := i_lt (n := 0) (by decide) c_1
    refine lv_iconst (v := 0) hx hb dX12_isPilgrim_18 (by decide) ?_
    exact W.zret (v := 0) hx hb hr rfl (fun t ht hW => ⟨⟨0, (σ, ρ), rfl, ⟨hB.2.1, hB.2.2, (show ((0 : Int32).toInt = 0 ∨ (0 : Int32).toInt = 1) ∧ ((0 : Int32).toInt = 1 → 0 ≤ p1.toInt ∧ p1.toInt ≤ 3) from ⟨Or.inl (by decide), fun h => absurd h (by decide)⟩)⟩, (show TP D cA L T r σ ρ t.heap from by rw [ht]; exact hB.1)⟩, hS.F ht⟩) hS.2.2 dX12_isPilgrim_19
  · skip
    have uc_1 := i_nlt (n := 0) (by decide) c_1
    refine lv_iload_n hx hb dX12_isPilgrim_4 rfl (lv_at hl 1 rfl) ?_
    refine lv_aload_n hx hb dX12_isPilgrim_5 rfl (lv_at hl 0 rfl) ?_
    refine t_gr hx hb hts hown hK hG hB mh0 th0 fq_12_20 rfl mw_5_236 dX12_isPilgrim_6 (fun b_2 hb_2 mb_2 tb_2 => ?_)
    refine lv_iconst (v := 3) hx hb dX12_isPilgrim_9 (by decide) ?_
    refine t_aj hx hb hK hB mb_2 tb_2 ai_70 (i_in (by decide) (by decide)) dX12_isPilgrim_10 (fun x_3 ex_3 lx_3 ux_3 => ?_)
    have lx_3 : 0 ≤ x_3.toInt := lx_3
    have ux_3 : x_3.toInt ≤ 4 := ux_3
    have cx_3 := congrArg Int32.toInt ex_3
    refine lv_icmp_ge (tgt := 18) hx hb dX12_isPilgrim_11 (by decide) (fun c_4 => ?_) (fun c_4 => ?_)
    · skip
      have uc_4 := j_le c_4
      refine lv_iconst (v := 0) hx hb dX12_isPilgrim_18 (by decide) ?_
      exact W.zret (v := 0) hx hb hr rfl (fun t ht hW => ⟨⟨0, (σ, ρ), rfl, ⟨hB.2.1, hB.2.2, (show ((0 : Int32).toInt = 0 ∨ (0 : Int32).toInt = 1) ∧ ((0 : Int32).toInt = 1 → 0 ≤ p1.toInt ∧ p1.toInt ≤ 3) from ⟨Or.inl (by decide), fun h => absurd h (by decide)⟩)⟩, (show TP D cA L T r σ ρ t.heap from by rw [ht]; exact hB.1)⟩, hS.F ht⟩) hS.2.2 dX12_isPilgrim_19
    · skip
      have uc_4 := j_nle c_4
      refine lv_iconst (v := 1) hx hb dX12_isPilgrim_14 (by decide) ?_
      refine lv_goto (tgt := 19) hx hb dX12_isPilgrim_15 (by decide) ?_
      exact W.zret (v := 1) hx hb hr rfl (fun t ht hW => ⟨⟨1, (σ, ρ), rfl, ⟨hB.2.1, hB.2.2, (show ((1 : Int32).toInt = 0 ∨ (1 : Int32).toInt = 1) ∧ ((1 : Int32).toInt = 1 → 0 ≤ p1.toInt ∧ p1.toInt ≤ 3) from ⟨Or.inr (by decide), fun _ => by omega⟩)⟩, (show TP D cA L T r σ ρ t.heap from by rw [ht]; exact hB.1)⟩, hS.F ht⟩) hS.2.2 dX12_isPilgrim_19
theorem dX12_pilgrimOf_0 : decode cX12_pilgrimOf 0 = .ok (.aload_n 0, 1) := by decide +kernel
theorem dX12_pilgrimOf_1 : decode cX12_pilgrimOf 1 = .ok (.getfield 39, 3) := by decide +kernel
theorem dX12_pilgrimOf_4 : decode cX12_pilgrimOf 4 = .ok (.bipush 58, 2) := by decide +kernel
theorem dX12_pilgrimOf_6 : decode cX12_pilgrimOf 6 = .ok (.bipush 9, 2) := by decide +kernel
theorem dX12_pilgrimOf_8 : decode cX12_pilgrimOf 8 = .ok (.iload_n 1, 1) := by decide +kernel
theorem dX12_pilgrimOf_9 : decode cX12_pilgrimOf 9 = .ok (.imul, 1) := by decide +kernel
theorem dX12_pilgrimOf_10 : decode cX12_pilgrimOf 10 = .ok (.iadd, 1) := by decide +kernel
theorem dX12_pilgrimOf_11 : decode cX12_pilgrimOf 11 = .ok (.iload_n 2, 1) := by decide +kernel
theorem dX12_pilgrimOf_12 : decode cX12_pilgrimOf 12 = .ok (.iadd, 1) := by decide +kernel
theorem dX12_pilgrimOf_13 : decode cX12_pilgrimOf 13 = .ok (.iaload, 1) := by decide +kernel
theorem dX12_pilgrimOf_14 : decode cX12_pilgrimOf 14 = .ok (.ireturn, 1) := by decide +kernel
set_option maxHeartbeats 4000000 in
set_option maxRecDepth 100000 in
theorem cy_X12_pilgrimOf_0 (l : Launch) (D : va_G) (cA : Nat → ClassId) (L : List Nat) (T : Nat → Nat) (r : Rg) (hG : GR L T r) (hL : L.Nodup) (σ : Sg) (ρ : Lg) (hW : WT L ry T σ) (sz : Nat) (h0 : Nat) (mh0 : h0 ∈ L) (th0 : T h0 = 12) (p1 : Int32) (w0 : 0 ≤ p1.toInt) (w1 : p1.toInt ≤ 3) : Met l yX12_pilgrimOf (.code yX12_pilgrimOf cX12_pilgrimOf 3 (some .int) :: wsA) ({ frames := 0, cells := 0, slots := 0, locals := 0 }) (PR D cA L T r σ ρ sz [.ref h0, .int p1, .int 0]) (QI D cA L T r ry ([] : List (Nat × Nat)) σ sz (fun x σ1 => (0 ≤ x.toInt ∧ x.toInt ≤ 8))) 0 0 (dm L sz) := by
  refine Met.ofW (cc := cX12_pilgrimOf) (maxL := 3) (ret := (some .int)) (by decide) rfl ?_
  intro p e s m args below meth c s₁ B hml hv
  obtain ⟨rfl, hsz, hP, hK, hN⟩ := hv
  have hx := B.exec
  have hb := B.bytes
  have hr := B.returns
  have hts : ∀ w ∈ wsA, w.before _ s = true := fun w h => atoms_spec (ws := .code yX12_pilgrimOf cX12_pilgrimOf 3 (some .int) :: wsA) B.pre w (List.mem_cons_of_mem _ h)
  have hown : s.vm.findClass RX12 = some m.cls := findClass_of_methodNamed B.named
  subst hsz
  have hLA : LA (dm L s.heap.size) L := ⟨hL, fun a h => Or.inl h⟩
  have hA : ∀ q : Nat, s.heap.size ≤ q → dm L s.heap.size q := fun q h => Or.inr h
  have hS : va_S (dm L s.heap.size) s.heap s.heap [] := va_S.rf
  have hB : TS D cA L T r ry ([] : List (Nat × Nat)) σ σ ρ s.heap := ⟨hP, hW, FR.rf⟩
  have hl := lv_entry ([.ref h0, .int p1, .int 0]) (n := 3) (Nat.le_of_ble_eq_true rfl)
  rw [lg_entry_eq]
  generalize (lg_sl ([.ref h0, .int p1, .int 0]) ++ List.replicate (3 - (lg_sl ([.ref h0, .int p1, .int 0])).length) Slot.unset).toArray = ls at hl ⊢
  have hl : lv_has ls 3 [(0, .ref h0), (1, .int p1), (2, .int 0)] := hl
  refine lv_aload_n hx hb dX12_pilgrimOf_0 rfl (lv_at hl 0 rfl) ?_
  refine t_gr hx hb hts hown hK hG hB mh0 th0 fq_12_20 rfl mw_5_236 dX12_pilgrimOf_1 (fun b_1 hb_1 mb_1 tb_1 => ?_)
  refine lv_bipush (v := 58) hx hb dX12_pilgrimOf_4 (by decide) ?_
  refine lv_bipush (v := 9) hx hb dX12_pilgrimOf_6 (by decide) ?_
  refine lv_iload_n hx hb dX12_pilgrimOf_8 rfl (lv_at hl 1 rfl) ?_
  refine lv_imul hx hb dX12_pilgrimOf_9 ?_
  refine lv_topi (fun x_2 ex_2 => ?_)
  have vx_2 := b_mul (by decide : (9 : Int32).toInt = 9) (rfl : p1.toInt = _) ex_2 (by omega) (by omega)
  refine lv_iadd hx hb dX12_pilgrimOf_10 ?_
  refine lv_topi (fun x_3 ex_3 => ?_)
  have vx_3 := b_add (by decide : (58 : Int32).toInt = 58) (rfl : x_2.toInt = _) ex_3 (by omega) (by omega)
  refine lv_iload_n hx hb dX12_pilgrimOf_11 rfl (lv_at hl 2 rfl) ?_
  refine lv_iadd hx hb dX12_pilgrimOf_12 ?_
  refine lv_topi (fun x_4 ex_4 => ?_)
  have vx_4 := b_add (rfl : x_3.toInt = _) (by decide : (0 : Int32).toInt = 0) ex_4 (by omega) (by omega)
  refine t_aj hx hb hK hB mb_1 tb_1 ai_70 (i_in (by omega) (by omega)) dX12_pilgrimOf_13 (fun x_5 ex_5 lx_5 ux_5 => ?_)
  rw [show ry 70 x_4.toNatClampNeg = (0, 8) from sbP (by have hn : x_4.toNatClampNeg = x_4.toInt.toNat := rfl; omega)] at lx_5 ux_5
  have cx_5 := congrArg Int32.toInt ex_5
  exact W.iret (v := x_5) hx hb hr (fun t ht hW => ⟨⟨x_5, (σ, ρ), rfl, ⟨hB.2.1, hB.2.2, (show 0 ≤ (x_5 : Int32).toInt ∧ (x_5 : Int32).toInt ≤ 8 from ⟨by omega, by omega⟩)⟩, (show TP D cA L T r σ ρ t.heap from by rw [ht]; exact hB.1)⟩, hS.F ht⟩) hS.2.2 dX12_pilgrimOf_14
set_option maxHeartbeats 4000000 in
set_option maxRecDepth 100000 in
theorem cy_X12_pilgrimOf (l : Launch) (D : va_G) (cA : Nat → ClassId) (L : List Nat) (T : Nat → Nat) (r : Rg) (hG : GR L T r) (hL : L.Nodup) (σ : Sg) (ρ : Lg) (hW : WT L ry T σ) (sz : Nat) (h0 : Nat) (mh0 : h0 ∈ L) (th0 : T h0 = 12) (p1 : Int32) (p2 : Int32) (w0 : 0 ≤ p1.toInt) (w1 : p1.toInt ≤ 3) (w2 : 0 ≤ p2.toInt) (w3 : p2.toInt ≤ 8) : Met l yX12_pilgrimOf (.code yX12_pilgrimOf cX12_pilgrimOf 3 (some .int) :: wsA) ({ frames := 0, cells := 0, slots := 0, locals := 0 }) (PR D cA L T r σ ρ sz [.ref h0, .int p1, .int p2]) (QI D cA L T r ry ([] : List (Nat × Nat)) σ sz (fun x σ1 => True)) 0 0 (dm L sz) := by
  refine Met.ofW (cc := cX12_pilgrimOf) (maxL := 3) (ret := (some .int)) (by decide) rfl ?_
  intro p e s m args below meth c s₁ B hml hv
  obtain ⟨rfl, hsz, hP, hK, hN⟩ := hv
  have hx := B.exec
  have hb := B.bytes
  have hr := B.returns
  have hts : ∀ w ∈ wsA, w.before _ s = true := fun w h => atoms_spec (ws := .code yX12_pilgrimOf cX12_pilgrimOf 3 (some .int) :: wsA) B.pre w (List.mem_cons_of_mem _ h)
  have hown : s.vm.findClass RX12 = some m.cls := findClass_of_methodNamed B.named
  subst hsz
  have hLA : LA (dm L s.heap.size) L := ⟨hL, fun a h => Or.inl h⟩
  have hA : ∀ q : Nat, s.heap.size ≤ q → dm L s.heap.size q := fun q h => Or.inr h
  have hS : va_S (dm L s.heap.size) s.heap s.heap [] := va_S.rf
  have hB : TS D cA L T r ry ([] : List (Nat × Nat)) σ σ ρ s.heap := ⟨hP, hW, FR.rf⟩
  have hl := lv_entry ([.ref h0, .int p1, .int p2]) (n := 3) (Nat.le_of_ble_eq_true rfl)
  rw [lg_entry_eq]
  generalize (lg_sl ([.ref h0, .int p1, .int p2]) ++ List.replicate (3 - (lg_sl ([.ref h0, .int p1, .int p2])).length) Slot.unset).toArray = ls at hl ⊢
  have hl : lv_has ls 3 [(0, .ref h0), (1, .int p1), (2, .int p2)] := hl
  refine lv_aload_n hx hb dX12_pilgrimOf_0 rfl (lv_at hl 0 rfl) ?_
  refine t_gr hx hb hts hown hK hG hB mh0 th0 fq_12_20 rfl mw_5_236 dX12_pilgrimOf_1 (fun b_1 hb_1 mb_1 tb_1 => ?_)
  refine lv_bipush (v := 58) hx hb dX12_pilgrimOf_4 (by decide) ?_
  refine lv_bipush (v := 9) hx hb dX12_pilgrimOf_6 (by decide) ?_
  refine lv_iload_n hx hb dX12_pilgrimOf_8 rfl (lv_at hl 1 rfl) ?_
  refine lv_imul hx hb dX12_pilgrimOf_9 ?_
  refine lv_topi (fun x_2 ex_2 => ?_)
  have vx_2 := b_mul (by decide : (9 : Int32).toInt = 9) (rfl : p1.toInt = _) ex_2 (by omega) (by omega)
  refine lv_iadd hx hb dX12_pilgrimOf_10 ?_
  refine lv_topi (fun x_3 ex_3 => ?_)
  have vx_3 := b_add (by decide : (58 : Int32).toInt = 58) (rfl : x_2.toInt = _) ex_3 (by omega) (by omega)
  refine lv_iload_n hx hb dX12_pilgrimOf_11 rfl (lv_at hl 2 rfl) ?_
  refine lv_iadd hx hb dX12_pilgrimOf_12 ?_
  refine lv_topi (fun x_4 ex_4 => ?_)
  have vx_4 := b_add (rfl : x_3.toInt = _) (rfl : p2.toInt = _) ex_4 (by omega) (by omega)
  refine t_aj hx hb hK hB mb_1 tb_1 ai_70 (i_in (by omega) (by omega)) dX12_pilgrimOf_13 (fun x_5 ex_5 lx_5 ux_5 => ?_)
  clear lx_5 ux_5
  have cx_5 := congrArg Int32.toInt ex_5
  exact W.iret (v := x_5) hx hb hr (fun t ht hW => ⟨⟨x_5, (σ, ρ), rfl, ⟨hB.2.1, hB.2.2, trivial⟩, (show TP D cA L T r σ ρ t.heap from by rw [ht]; exact hB.1)⟩, hS.F ht⟩) hS.2.2 dX12_pilgrimOf_14
theorem dX12_hasOf_0 : decode cX12_hasOf 0 = .ok (.aload_n 0, 1) := by decide +kernel
theorem dX12_hasOf_1 : decode cX12_hasOf 1 = .ok (.getfield 39, 3) := by decide +kernel
theorem dX12_hasOf_4 : decode cX12_hasOf 4 = .ok (.bipush 58, 2) := by decide +kernel
theorem dX12_hasOf_6 : decode cX12_hasOf 6 = .ok (.bipush 9, 2) := by decide +kernel
theorem dX12_hasOf_8 : decode cX12_hasOf 8 = .ok (.iload_n 1, 1) := by decide +kernel
theorem dX12_hasOf_9 : decode cX12_hasOf 9 = .ok (.imul, 1) := by decide +kernel
theorem dX12_hasOf_10 : decode cX12_hasOf 10 = .ok (.iadd, 1) := by decide +kernel
theorem dX12_hasOf_11 : decode cX12_hasOf 11 = .ok (.iconst 4, 1) := by decide +kernel
theorem dX12_hasOf_12 : decode cX12_hasOf 12 = .ok (.iadd, 1) := by decide +kernel
theorem dX12_hasOf_13 : decode cX12_hasOf 13 = .ok (.iload_n 2, 1) := by decide +kernel
theorem dX12_hasOf_14 : decode cX12_hasOf 14 = .ok (.iadd, 1) := by decide +kernel
theorem dX12_hasOf_15 : decode cX12_hasOf 15 = .ok (.iaload, 1) := by decide +kernel
theorem dX12_hasOf_16 : decode cX12_hasOf 16 = .ok (.ireturn, 1) := by decide +kernel
set_option maxHeartbeats 4000000 in
set_option maxRecDepth 100000 in
theorem cy_X12_hasOf (l : Launch) (D : va_G) (cA : Nat → ClassId) (L : List Nat) (T : Nat → Nat) (r : Rg) (hG : GR L T r) (hL : L.Nodup) (σ : Sg) (ρ : Lg) (hW : WT L ry T σ) (sz : Nat) (h0 : Nat) (mh0 : h0 ∈ L) (th0 : T h0 = 12) (p1 : Int32) (p2 : Int32) (w0 : 0 ≤ p1.toInt) (w1 : p1.toInt ≤ 3) (w2 : 0 ≤ p2.toInt) (w3 : p2.toInt ≤ 4) : Met l yX12_hasOf (.code yX12_hasOf cX12_hasOf 3 (some .int) :: wsA) ({ frames := 0, cells := 0, slots := 0, locals := 0 }) (PR D cA L T r σ ρ sz [.ref h0, .int p1, .int p2]) (QI D cA L T r ry ([] : List (Nat × Nat)) σ sz (fun x σ1 => True)) 0 0 (dm L sz) := by
  refine Met.ofW (cc := cX12_hasOf) (maxL := 3) (ret := (some .int)) (by decide) rfl ?_
  intro p e s m args below meth c s₁ B hml hv
  obtain ⟨rfl, hsz, hP, hK, hN⟩ := hv
  have hx := B.exec
  have hb := B.bytes
  have hr := B.returns
  have hts : ∀ w ∈ wsA, w.before _ s = true := fun w h => atoms_spec (ws := .code yX12_hasOf cX12_hasOf 3 (some .int) :: wsA) B.pre w (List.mem_cons_of_mem _ h)
  have hown : s.vm.findClass RX12 = some m.cls := findClass_of_methodNamed B.named
  subst hsz
  have hLA : LA (dm L s.heap.size) L := ⟨hL, fun a h => Or.inl h⟩
  have hA : ∀ q : Nat, s.heap.size ≤ q → dm L s.heap.size q := fun q h => Or.inr h
  have hS : va_S (dm L s.heap.size) s.heap s.heap [] := va_S.rf
  have hB : TS D cA L T r ry ([] : List (Nat × Nat)) σ σ ρ s.heap := ⟨hP, hW, FR.rf⟩
  have hl := lv_entry ([.ref h0, .int p1, .int p2]) (n := 3) (Nat.le_of_ble_eq_true rfl)
  rw [lg_entry_eq]
  generalize (lg_sl ([.ref h0, .int p1, .int p2]) ++ List.replicate (3 - (lg_sl ([.ref h0, .int p1, .int p2])).length) Slot.unset).toArray = ls at hl ⊢
  have hl : lv_has ls 3 [(0, .ref h0), (1, .int p1), (2, .int p2)] := hl
  refine lv_aload_n hx hb dX12_hasOf_0 rfl (lv_at hl 0 rfl) ?_
  refine t_gr hx hb hts hown hK hG hB mh0 th0 fq_12_20 rfl mw_5_236 dX12_hasOf_1 (fun b_1 hb_1 mb_1 tb_1 => ?_)
  refine lv_bipush (v := 58) hx hb dX12_hasOf_4 (by decide) ?_
  refine lv_bipush (v := 9) hx hb dX12_hasOf_6 (by decide) ?_
  refine lv_iload_n hx hb dX12_hasOf_8 rfl (lv_at hl 1 rfl) ?_
  refine lv_imul hx hb dX12_hasOf_9 ?_
  refine lv_topi (fun x_2 ex_2 => ?_)
  have vx_2 := b_mul (by decide : (9 : Int32).toInt = 9) (rfl : p1.toInt = _) ex_2 (by omega) (by omega)
  refine lv_iadd hx hb dX12_hasOf_10 ?_
  refine lv_topi (fun x_3 ex_3 => ?_)
  have vx_3 := b_add (by decide : (58 : Int32).toInt = 58) (rfl : x_2.toInt = _) ex_3 (by omega) (by omega)
  refine lv_iconst (v := 4) hx hb dX12_hasOf_11 (by decide) ?_
  refine lv_iadd hx hb dX12_hasOf_12 ?_
  refine lv_topi (fun x_4 ex_4 => ?_)
  have vx_4 := b_add (rfl : x_3.toInt = _) (by decide : (4 : Int32).toInt = 4) ex_4 (by omega) (by omega)
  refine lv_iload_n hx hb dX12_hasOf_13 rfl (lv_at hl 2 rfl) ?_
  refine lv_iadd hx hb dX12_hasOf_14 ?_
  refine lv_topi (fun x_5 ex_5 => ?_)
  have vx_5 := b_add (rfl : x_4.toInt = _) (rfl : p2.toInt = _) ex_5 (by omega) (by omega)
  refine t_aj hx hb hK hB mb_1 tb_1 ai_70 (i_in (by omega) (by omega)) dX12_hasOf_15 (fun x_6 ex_6 lx_6 ux_6 => ?_)
  clear lx_6 ux_6
  have cx_6 := congrArg Int32.toInt ex_6
  exact W.iret (v := x_6) hx hb hr (fun t ht hW => ⟨⟨x_6, (σ, ρ), rfl, ⟨hB.2.1, hB.2.2, trivial⟩, (show TP D cA L T r σ ρ t.heap from by rw [ht]; exact hB.1)⟩, hS.F ht⟩) hS.2.2 dX12_hasOf_16
theorem dX12_weightOf_0 : decode cX12_weightOf 0 = .ok (.aload_n 0, 1) := by decide +kernel
theorem dX12_weightOf_1 : decode cX12_weightOf 1 = .ok (.getfield 39, 3) := by decide +kernel
theorem dX12_weightOf_4 : decode cX12_weightOf 4 = .ok (.bipush 94, 2) := by decide +kernel
theorem dX12_weightOf_6 : decode cX12_weightOf 6 = .ok (.iconst 3, 1) := by decide +kernel
theorem dX12_weightOf_7 : decode cX12_weightOf 7 = .ok (.iload_n 1, 1) := by decide +kernel
theorem dX12_weightOf_8 : decode cX12_weightOf 8 = .ok (.imul, 1) := by decide +kernel
theorem dX12_weightOf_9 : decode cX12_weightOf 9 = .ok (.iadd, 1) := by decide +kernel
theorem dX12_weightOf_10 : decode cX12_weightOf 10 = .ok (.iaload, 1) := by decide +kernel
theorem dX12_weightOf_11 : decode cX12_weightOf 11 = .ok (.ireturn, 1) := by decide +kernel
set_option maxHeartbeats 4000000 in
set_option maxRecDepth 100000 in
theorem cy_X12_weightOf (l : Launch) (D : va_G) (cA : Nat → ClassId) (L : List Nat) (T : Nat → Nat) (r : Rg) (hG : GR L T r) (hL : L.Nodup) (σ : Sg) (ρ : Lg) (hW : WT L ry T σ) (sz : Nat) (h0 : Nat) (mh0 : h0 ∈ L) (th0 : T h0 = 12) (p1 : Int32) (w0 : 0 ≤ p1.toInt) (w1 : p1.toInt ≤ 4) : Met l yX12_weightOf (.code yX12_weightOf cX12_weightOf 2 (some .int) :: wsA) ({ frames := 0, cells := 0, slots := 0, locals := 0 }) (PR D cA L T r σ ρ sz [.ref h0, .int p1]) (QI D cA L T r ry ([] : List (Nat × Nat)) σ sz (fun x σ1 => True)) 0 0 (dm L sz) := by
  refine Met.ofW (cc := cX12_weightOf) (maxL := 2) (ret := (some .int)) (by decide) rfl ?_
  intro p e s m args below meth c s₁ B hml hv
  obtain ⟨rfl, hsz, hP, hK, hN⟩ := hv
  have hx := B.exec
  have hb := B.bytes
  have hr := B.returns
  have hts : ∀ w ∈ wsA, w.before _ s = true := fun w h => atoms_spec (ws := .code yX12_weightOf cX12_weightOf 2 (some .int) :: wsA) B.pre w (List.mem_cons_of_mem _ h)
  have hown : s.vm.findClass RX12 = some m.cls := findClass_of_methodNamed B.named
  subst hsz
  have hLA : LA (dm L s.heap.size) L := ⟨hL, fun a h => Or.inl h⟩
  have hA : ∀ q : Nat, s.heap.size ≤ q → dm L s.heap.size q := fun q h => Or.inr h
  have hS : va_S (dm L s.heap.size) s.heap s.heap [] := va_S.rf
  have hB : TS D cA L T r ry ([] : List (Nat × Nat)) σ σ ρ s.heap := ⟨hP, hW, FR.rf⟩
  have hl := lv_entry ([.ref h0, .int p1]) (n := 2) (Nat.le_of_ble_eq_true rfl)
  rw [lg_entry_eq]
  generalize (lg_sl ([.ref h0, .int p1]) ++ List.replicate (2 - (lg_sl ([.ref h0, .int p1])).length) Slot.unset).toArray = ls at hl ⊢
  have hl : lv_has ls 2 [(0, .ref h0), (1, .int p1)] := hl
  refine lv_aload_n hx hb dX12_weightOf_0 rfl (lv_at hl 0 rfl) ?_
  refine t_gr hx hb hts hown hK hG hB mh0 th0 fq_12_20 rfl mw_5_236 dX12_weightOf_1 (fun b_1 hb_1 mb_1 tb_1 => ?_)
  refine lv_bipush (v := 94) hx hb dX12_weightOf_4 (by decide) ?_
  refine lv_iconst (v := 3) hx hb dX12_weightOf_6 (by decide) ?_
  refine lv_iload_n hx hb dX12_weightOf_7 rfl (lv_at hl 1 rfl) ?_
  refine lv_imul hx hb dX12_weightOf_8 ?_
  refine lv_topi (fun x_2 ex_2 => ?_)
  have vx_2 := b_mul (by decide : (3 : Int32).toInt = 3) (rfl : p1.toInt = _) ex_2 (by omega) (by omega)
  refine lv_iadd hx hb dX12_weightOf_9 ?_
  refine lv_topi (fun x_3 ex_3 => ?_)
  have vx_3 := b_add (by decide : (94 : Int32).toInt = 94) (rfl : x_2.toInt = _) ex_3 (by omega) (by omega)
  refine t_aj hx hb hK hB mb_1 tb_1 ai_70 (i_in (by omega) (by omega)) dX12_weightOf_10 (fun x_4 ex_4 lx_4 ux_4 => ?_)
  clear lx_4 ux_4
  have cx_4 := congrArg Int32.toInt ex_4
  exact W.iret (v := x_4) hx hb hr (fun t ht hW => ⟨⟨x_4, (σ, ρ), rfl, ⟨hB.2.1, hB.2.2, trivial⟩, (show TP D cA L T r σ ρ t.heap from by rw [ht]; exact hB.1)⟩, hS.F ht⟩) hS.2.2 dX12_weightOf_11
theorem dX12_worthOf_0 : decode cX12_worthOf 0 = .ok (.aload_n 0, 1) := by decide +kernel
theorem dX12_worthOf_1 : decode cX12_worthOf 1 = .ok (.getfield 39, 3) := by decide +kernel
theorem dX12_worthOf_4 : decode cX12_worthOf 4 = .ok (.bipush 94, 2) := by decide +kernel
theorem dX12_worthOf_6 : decode cX12_worthOf 6 = .ok (.iconst 3, 1) := by decide +kernel
theorem dX12_worthOf_7 : decode cX12_worthOf 7 = .ok (.iload_n 1, 1) := by decide +kernel
theorem dX12_worthOf_8 : decode cX12_worthOf 8 = .ok (.imul, 1) := by decide +kernel
theorem dX12_worthOf_9 : decode cX12_worthOf 9 = .ok (.iadd, 1) := by decide +kernel
theorem dX12_worthOf_10 : decode cX12_worthOf 10 = .ok (.iconst 1, 1) := by decide +kernel
theorem dX12_worthOf_11 : decode cX12_worthOf 11 = .ok (.iadd, 1) := by decide +kernel
theorem dX12_worthOf_12 : decode cX12_worthOf 12 = .ok (.iaload, 1) := by decide +kernel
theorem dX12_worthOf_13 : decode cX12_worthOf 13 = .ok (.ireturn, 1) := by decide +kernel
set_option maxHeartbeats 4000000 in
set_option maxRecDepth 100000 in
theorem cy_X12_worthOf (l : Launch) (D : va_G) (cA : Nat → ClassId) (L : List Nat) (T : Nat → Nat) (r : Rg) (hG : GR L T r) (hL : L.Nodup) (σ : Sg) (ρ : Lg) (hW : WT L ry T σ) (sz : Nat) (h0 : Nat) (mh0 : h0 ∈ L) (th0 : T h0 = 12) (p1 : Int32) (w0 : 0 ≤ p1.toInt) (w1 : p1.toInt ≤ 4) : Met l yX12_worthOf (.code yX12_worthOf cX12_worthOf 2 (some .int) :: wsA) ({ frames := 0, cells := 0, slots := 0, locals := 0 }) (PR D cA L T r σ ρ sz [.ref h0, .int p1]) (QI D cA L T r ry ([] : List (Nat × Nat)) σ sz (fun x σ1 => True)) 0 0 (dm L sz) := by
  refine Met.ofW (cc := cX12_worthOf) (maxL := 2) (ret := (some .int)) (by decide) rfl ?_
  intro p e s m args below meth c s₁ B hml hv
  obtain ⟨rfl, hsz, hP, hK, hN⟩ := hv
  have hx := B.exec
  have hb := B.bytes
  have hr := B.returns
  have hts : ∀ w ∈ wsA, w.before _ s = true := fun w h => atoms_spec (ws := .code yX12_worthOf cX12_worthOf 2 (some .int) :: wsA) B.pre w (List.mem_cons_of_mem _ h)
  have hown : s.vm.findClass RX12 = some m.cls := findClass_of_methodNamed B.named
  subst hsz
  have hLA : LA (dm L s.heap.size) L := ⟨hL, fun a h => Or.inl h⟩
  have hA : ∀ q : Nat, s.heap.size ≤ q → dm L s.heap.size q := fun q h => Or.inr h
  have hS : va_S (dm L s.heap.size) s.heap s.heap [] := va_S.rf
  have hB : TS D cA L T r ry ([] : List (Nat × Nat)) σ σ ρ s.heap := ⟨hP, hW, FR.rf⟩
  have hl := lv_entry ([.ref h0, .int p1]) (n := 2) (Nat.le_of_ble_eq_true rfl)
  rw [lg_entry_eq]
  generalize (lg_sl ([.ref h0, .int p1]) ++ List.replicate (2 - (lg_sl ([.ref h0, .int p1])).length) Slot.unset).toArray = ls at hl ⊢
  have hl : lv_has ls 2 [(0, .ref h0), (1, .int p1)] := hl
  refine lv_aload_n hx hb dX12_worthOf_0 rfl (lv_at hl 0 rfl) ?_
  refine t_gr hx hb hts hown hK hG hB mh0 th0 fq_12_20 rfl mw_5_236 dX12_worthOf_1 (fun b_1 hb_1 mb_1 tb_1 => ?_)
  refine lv_bipush (v := 94) hx hb dX12_worthOf_4 (by decide) ?_
  refine lv_iconst (v := 3) hx hb dX12_worthOf_6 (by decide) ?_
  refine lv_iload_n hx hb dX12_worthOf_7 rfl (lv_at hl 1 rfl) ?_
  refine lv_imul hx hb dX12_worthOf_8 ?_
  refine lv_topi (fun x_2 ex_2 => ?_)
  have vx_2 := b_mul (by decide : (3 : Int32).toInt = 3) (rfl : p1.toInt = _) ex_2 (by omega) (by omega)
  refine lv_iadd hx hb dX12_worthOf_9 ?_
  refine lv_topi (fun x_3 ex_3 => ?_)
  have vx_3 := b_add (by decide : (94 : Int32).toInt = 94) (rfl : x_2.toInt = _) ex_3 (by omega) (by omega)
  refine lv_iconst (v := 1) hx hb dX12_worthOf_10 (by decide) ?_
  refine lv_iadd hx hb dX12_worthOf_11 ?_
  refine lv_topi (fun x_4 ex_4 => ?_)
  have vx_4 := b_add (rfl : x_3.toInt = _) (by decide : (1 : Int32).toInt = 1) ex_4 (by omega) (by omega)
  refine t_aj hx hb hK hB mb_1 tb_1 ai_70 (i_in (by omega) (by omega)) dX12_worthOf_12 (fun x_5 ex_5 lx_5 ux_5 => ?_)
  clear lx_5 ux_5
  have cx_5 := congrArg Int32.toInt ex_5
  exact W.iret (v := x_5) hx hb hr (fun t ht hW => ⟨⟨x_5, (σ, ρ), rfl, ⟨hB.2.1, hB.2.2, trivial⟩, (show TP D cA L T r σ ρ t.heap from by rw [ht]; exact hB.1)⟩, hS.F ht⟩) hS.2.2 dX12_worthOf_13
theorem dX12_priceOf_0 : decode cX12_priceOf 0 = .ok (.aload_n 0, 1) := by decide +kernel
theorem dX12_priceOf_1 : decode cX12_priceOf 1 = .ok (.getfield 39, 3) := by decide +kernel
theorem dX12_priceOf_4 : decode cX12_priceOf 4 = .ok (.bipush 94, 2) := by decide +kernel
theorem dX12_priceOf_6 : decode cX12_priceOf 6 = .ok (.iconst 3, 1) := by decide +kernel
theorem dX12_priceOf_7 : decode cX12_priceOf 7 = .ok (.iload_n 1, 1) := by decide +kernel
theorem dX12_priceOf_8 : decode cX12_priceOf 8 = .ok (.imul, 1) := by decide +kernel
theorem dX12_priceOf_9 : decode cX12_priceOf 9 = .ok (.iadd, 1) := by decide +kernel
theorem dX12_priceOf_10 : decode cX12_priceOf 10 = .ok (.iconst 2, 1) := by decide +kernel
theorem dX12_priceOf_11 : decode cX12_priceOf 11 = .ok (.iadd, 1) := by decide +kernel
theorem dX12_priceOf_12 : decode cX12_priceOf 12 = .ok (.iaload, 1) := by decide +kernel
theorem dX12_priceOf_13 : decode cX12_priceOf 13 = .ok (.ireturn, 1) := by decide +kernel
set_option maxHeartbeats 4000000 in
set_option maxRecDepth 100000 in
theorem cy_X12_priceOf (l : Launch) (D : va_G) (cA : Nat → ClassId) (L : List Nat) (T : Nat → Nat) (r : Rg) (hG : GR L T r) (hL : L.Nodup) (σ : Sg) (ρ : Lg) (hW : WT L ry T σ) (sz : Nat) (h0 : Nat) (mh0 : h0 ∈ L) (th0 : T h0 = 12) (p1 : Int32) (w0 : 0 ≤ p1.toInt) (w1 : p1.toInt ≤ 4) : Met l yX12_priceOf (.code yX12_priceOf cX12_priceOf 2 (some .int) :: wsA) ({ frames := 0, cells := 0, slots := 0, locals := 0 }) (PR D cA L T r σ ρ sz [.ref h0, .int p1]) (QI D cA L T r ry ([] : List (Nat × Nat)) σ sz (fun x σ1 => True)) 0 0 (dm L sz) := by
  refine Met.ofW (cc := cX12_priceOf) (maxL := 2) (ret := (some .int)) (by decide) rfl ?_
  intro p e s m args below meth c s₁ B hml hv
  obtain ⟨rfl, hsz, hP, hK, hN⟩ := hv
  have hx := B.exec
  have hb := B.bytes
  have hr := B.returns
  have hts : ∀ w ∈ wsA, w.before _ s = true := fun w h => atoms_spec (ws := .code yX12_priceOf cX12_priceOf 2 (some .int) :: wsA) B.pre w (List.mem_cons_of_mem _ h)
  have hown : s.vm.findClass RX12 = some m.cls := findClass_of_methodNamed B.named
  subst hsz
  have hLA : LA (dm L s.heap.size) L := ⟨hL, fun a h => Or.inl h⟩
  have hA : ∀ q : Nat, s.heap.size ≤ q → dm L s.heap.size q := fun q h => Or.inr h
  have hS : va_S (dm L s.heap.size) s.heap s.heap [] := va_S.rf
  have hB : TS D cA L T r ry ([] : List (Nat × Nat)) σ σ ρ s.heap := ⟨hP, hW, FR.rf⟩
  have hl := lv_entry ([.ref h0, .int p1]) (n := 2) (Nat.le_of_ble_eq_true rfl)
  rw [lg_entry_eq]
  generalize (lg_sl ([.ref h0, .int p1]) ++ List.replicate (2 - (lg_sl ([.ref h0, .int p1])).length) Slot.unset).toArray = ls at hl ⊢
  have hl : lv_has ls 2 [(0, .ref h0), (1, .int p1)] := hl
  refine lv_aload_n hx hb dX12_priceOf_0 rfl (lv_at hl 0 rfl) ?_
  refine t_gr hx hb hts hown hK hG hB mh0 th0 fq_12_20 rfl mw_5_236 dX12_priceOf_1 (fun b_1 hb_1 mb_1 tb_1 => ?_)
  refine lv_bipush (v := 94) hx hb dX12_priceOf_4 (by decide) ?_
  refine lv_iconst (v := 3) hx hb dX12_priceOf_6 (by decide) ?_
  refine lv_iload_n hx hb dX12_priceOf_7 rfl (lv_at hl 1 rfl) ?_
  refine lv_imul hx hb dX12_priceOf_8 ?_
  refine lv_topi (fun x_2 ex_2 => ?_)
  have vx_2 := b_mul (by decide : (3 : Int32).toInt = 3) (rfl : p1.toInt = _) ex_2 (by omega) (by omega)
  refine lv_iadd hx hb dX12_priceOf_9 ?_
  refine lv_topi (fun x_3 ex_3 => ?_)
  have vx_3 := b_add (by decide : (94 : Int32).toInt = 94) (rfl : x_2.toInt = _) ex_3 (by omega) (by omega)
  refine lv_iconst (v := 2) hx hb dX12_priceOf_10 (by decide) ?_
  refine lv_iadd hx hb dX12_priceOf_11 ?_
  refine lv_topi (fun x_4 ex_4 => ?_)
  have vx_4 := b_add (rfl : x_3.toInt = _) (by decide : (2 : Int32).toInt = 2) ex_4 (by omega) (by omega)
  refine t_aj hx hb hK hB mb_1 tb_1 ai_70 (i_in (by omega) (by omega)) dX12_priceOf_12 (fun x_5 ex_5 lx_5 ux_5 => ?_)
  clear lx_5 ux_5
  have cx_5 := congrArg Int32.toInt ex_5
  exact W.iret (v := x_5) hx hb hr (fun t ht hW => ⟨⟨x_5, (σ, ρ), rfl, ⟨hB.2.1, hB.2.2, trivial⟩, (show TP D cA L T r σ ρ t.heap from by rw [ht]; exact hB.1)⟩, hS.F ht⟩) hS.2.2 dX12_priceOf_13
theorem dX12_heapOf_0 : decode cX12_heapOf 0 = .ok (.aload_n 0, 1) := by decide +kernel
theorem dX12_heapOf_1 : decode cX12_heapOf 1 = .ok (.getfield 39, 3) := by decide +kernel
theorem dX12_heapOf_4 : decode cX12_heapOf 4 = .ok (.bipush 18, 2) := by decide +kernel
theorem dX12_heapOf_6 : decode cX12_heapOf 6 = .ok (.iconst 5, 1) := by decide +kernel
theorem dX12_heapOf_7 : decode cX12_heapOf 7 = .ok (.iload_n 1, 1) := by decide +kernel
theorem dX12_heapOf_8 : decode cX12_heapOf 8 = .ok (.imul, 1) := by decide +kernel
theorem dX12_heapOf_9 : decode cX12_heapOf 9 = .ok (.iadd, 1) := by decide +kernel
theorem dX12_heapOf_10 : decode cX12_heapOf 10 = .ok (.iload_n 2, 1) := by decide +kernel
theorem dX12_heapOf_11 : decode cX12_heapOf 11 = .ok (.iadd, 1) := by decide +kernel
theorem dX12_heapOf_12 : decode cX12_heapOf 12 = .ok (.iaload, 1) := by decide +kernel
theorem dX12_heapOf_13 : decode cX12_heapOf 13 = .ok (.ireturn, 1) := by decide +kernel
set_option maxHeartbeats 4000000 in
set_option maxRecDepth 100000 in
theorem cy_X12_heapOf (l : Launch) (D : va_G) (cA : Nat → ClassId) (L : List Nat) (T : Nat → Nat) (r : Rg) (hG : GR L T r) (hL : L.Nodup) (σ : Sg) (ρ : Lg) (hW : WT L ry T σ) (sz : Nat) (h0 : Nat) (mh0 : h0 ∈ L) (th0 : T h0 = 12) (p1 : Int32) (p2 : Int32) (w0 : 0 ≤ p1.toInt) (w1 : p1.toInt ≤ 7) (w2 : 0 ≤ p2.toInt) (w3 : p2.toInt ≤ 4) : Met l yX12_heapOf (.code yX12_heapOf cX12_heapOf 3 (some .int) :: wsA) ({ frames := 0, cells := 0, slots := 0, locals := 0 }) (PR D cA L T r σ ρ sz [.ref h0, .int p1, .int p2]) (QI D cA L T r ry ([] : List (Nat × Nat)) σ sz (fun x σ1 => (0 ≤ x.toInt ∧ x.toInt ≤ 99))) 0 0 (dm L sz) := by
  refine Met.ofW (cc := cX12_heapOf) (maxL := 3) (ret := (some .int)) (by decide) rfl ?_
  intro p e s m args below meth c s₁ B hml hv
  obtain ⟨rfl, hsz, hP, hK, hN⟩ := hv
  have hx := B.exec
  have hb := B.bytes
  have hr := B.returns
  have hts : ∀ w ∈ wsA, w.before _ s = true := fun w h => atoms_spec (ws := .code yX12_heapOf cX12_heapOf 3 (some .int) :: wsA) B.pre w (List.mem_cons_of_mem _ h)
  have hown : s.vm.findClass RX12 = some m.cls := findClass_of_methodNamed B.named
  subst hsz
  have hLA : LA (dm L s.heap.size) L := ⟨hL, fun a h => Or.inl h⟩
  have hA : ∀ q : Nat, s.heap.size ≤ q → dm L s.heap.size q := fun q h => Or.inr h
  have hS : va_S (dm L s.heap.size) s.heap s.heap [] := va_S.rf
  have hB : TS D cA L T r ry ([] : List (Nat × Nat)) σ σ ρ s.heap := ⟨hP, hW, FR.rf⟩
  have hl := lv_entry ([.ref h0, .int p1, .int p2]) (n := 3) (Nat.le_of_ble_eq_true rfl)
  rw [lg_entry_eq]
  generalize (lg_sl ([.ref h0, .int p1, .int p2]) ++ List.replicate (3 - (lg_sl ([.ref h0, .int p1, .int p2])).length) Slot.unset).toArray = ls at hl ⊢
  have hl : lv_has ls 3 [(0, .ref h0), (1, .int p1), (2, .int p2)] := hl
  refine lv_aload_n hx hb dX12_heapOf_0 rfl (lv_at hl 0 rfl) ?_
  refine t_gr hx hb hts hown hK hG hB mh0 th0 fq_12_20 rfl mw_5_236 dX12_heapOf_1 (fun b_1 hb_1 mb_1 tb_1 => ?_)
  refine lv_bipush (v := 18) hx hb dX12_heapOf_4 (by decide) ?_
  refine lv_iconst (v := 5) hx hb dX12_heapOf_6 (by decide) ?_
  refine lv_iload_n hx hb dX12_heapOf_7 rfl (lv_at hl 1 rfl) ?_
  refine lv_imul hx hb dX12_heapOf_8 ?_
  refine lv_topi (fun x_2 ex_2 => ?_)
  have vx_2 := b_mul (by decide : (5 : Int32).toInt = 5) (rfl : p1.toInt = _) ex_2 (by omega) (by omega)
  refine lv_iadd hx hb dX12_heapOf_9 ?_
  refine lv_topi (fun x_3 ex_3 => ?_)
  have vx_3 := b_add (by decide : (18 : Int32).toInt = 18) (rfl : x_2.toInt = _) ex_3 (by omega) (by omega)
  refine lv_iload_n hx hb dX12_heapOf_10 rfl (lv_at hl 2 rfl) ?_
  refine lv_iadd hx hb dX12_heapOf_11 ?_
  refine lv_topi (fun x_4 ex_4 => ?_)
  have vx_4 := b_add (rfl : x_3.toInt = _) (rfl : p2.toInt = _) ex_4 (by omega) (by omega)
  refine t_aj hx hb hK hB mb_1 tb_1 ai_70 (i_in (by omega) (by omega)) dX12_heapOf_12 (fun x_5 ex_5 lx_5 ux_5 => ?_)
  rw [show ry 70 x_4.toNatClampNeg = (0, 99) from sbH (by have hn : x_4.toNatClampNeg = x_4.toInt.toNat := rfl; omega) (by have hn : x_4.toNatClampNeg = x_4.toInt.toNat := rfl; omega)] at lx_5 ux_5
  have cx_5 := congrArg Int32.toInt ex_5
  exact W.iret (v := x_5) hx hb hr (fun t ht hW => ⟨⟨x_5, (σ, ρ), rfl, ⟨hB.2.1, hB.2.2, (show 0 ≤ (x_5 : Int32).toInt ∧ (x_5 : Int32).toInt ≤ 99 from ⟨by omega, by omega⟩)⟩, (show TP D cA L T r σ ρ t.heap from by rw [ht]; exact hB.1)⟩, hS.F ht⟩) hS.2.2 dX12_heapOf_13
theorem dX12_sortOf_0 : decode cX12_sortOf 0 = .ok (.aload_n 0, 1) := by decide +kernel
theorem dX12_sortOf_1 : decode cX12_sortOf 1 = .ok (.getfield 39, 3) := by decide +kernel
theorem dX12_sortOf_4 : decode cX12_sortOf 4 = .ok (.bipush 109, 2) := by decide +kernel
theorem dX12_sortOf_6 : decode cX12_sortOf 6 = .ok (.iconst 2, 1) := by decide +kernel
theorem dX12_sortOf_7 : decode cX12_sortOf 7 = .ok (.iload_n 1, 1) := by decide +kernel
theorem dX12_sortOf_8 : decode cX12_sortOf 8 = .ok (.imul, 1) := by decide +kernel
theorem dX12_sortOf_9 : decode cX12_sortOf 9 = .ok (.iadd, 1) := by decide +kernel
theorem dX12_sortOf_10 : decode cX12_sortOf 10 = .ok (.iload_n 2, 1) := by decide +kernel
theorem dX12_sortOf_11 : decode cX12_sortOf 11 = .ok (.iadd, 1) := by decide +kernel
theorem dX12_sortOf_12 : decode cX12_sortOf 12 = .ok (.iaload, 1) := by decide +kernel
theorem dX12_sortOf_13 : decode cX12_sortOf 13 = .ok (.ireturn, 1) := by decide +kernel
set_option maxHeartbeats 4000000 in
set_option maxRecDepth 100000 in
theorem cy_X12_sortOf (l : Launch) (D : va_G) (cA : Nat → ClassId) (L : List Nat) (T : Nat → Nat) (r : Rg) (hG : GR L T r) (hL : L.Nodup) (σ : Sg) (ρ : Lg) (hW : WT L ry T σ) (sz : Nat) (h0 : Nat) (mh0 : h0 ∈ L) (th0 : T h0 = 12) (p1 : Int32) (p2 : Int32) (w0 : 0 ≤ p1.toInt) (w1 : p1.toInt ≤ 7) (w2 : 0 ≤ p2.toInt) (w3 : p2.toInt ≤ 1) : Met l yX12_sortOf (.code yX12_sortOf cX12_sortOf 3 (some .int) :: wsA) ({ frames := 0, cells := 0, slots := 0, locals := 0 }) (PR D cA L T r σ ρ sz [.ref h0, .int p1, .int p2]) (QI D cA L T r ry ([] : List (Nat × Nat)) σ sz (fun x σ1 => (0 ≤ x.toInt ∧ x.toInt ≤ 4))) 0 0 (dm L sz) := by
  refine Met.ofW (cc := cX12_sortOf) (maxL := 3) (ret := (some .int)) (by decide) rfl ?_
  intro p e s m args below meth c s₁ B hml hv
  obtain ⟨rfl, hsz, hP, hK, hN⟩ := hv
  have hx := B.exec
  have hb := B.bytes
  have hr := B.returns
  have hts : ∀ w ∈ wsA, w.before _ s = true := fun w h => atoms_spec (ws := .code yX12_sortOf cX12_sortOf 3 (some .int) :: wsA) B.pre w (List.mem_cons_of_mem _ h)
  have hown : s.vm.findClass RX12 = some m.cls := findClass_of_methodNamed B.named
  subst hsz
  have hLA : LA (dm L s.heap.size) L := ⟨hL, fun a h => Or.inl h⟩
  have hA : ∀ q : Nat, s.heap.size ≤ q → dm L s.heap.size q := fun q h => Or.inr h
  have hS : va_S (dm L s.heap.size) s.heap s.heap [] := va_S.rf
  have hB : TS D cA L T r ry ([] : List (Nat × Nat)) σ σ ρ s.heap := ⟨hP, hW, FR.rf⟩
  have hl := lv_entry ([.ref h0, .int p1, .int p2]) (n := 3) (Nat.le_of_ble_eq_true rfl)
  rw [lg_entry_eq]
  generalize (lg_sl ([.ref h0, .int p1, .int p2]) ++ List.replicate (3 - (lg_sl ([.ref h0, .int p1, .int p2])).length) Slot.unset).toArray = ls at hl ⊢
  have hl : lv_has ls 3 [(0, .ref h0), (1, .int p1), (2, .int p2)] := hl
  refine lv_aload_n hx hb dX12_sortOf_0 rfl (lv_at hl 0 rfl) ?_
  refine t_gr hx hb hts hown hK hG hB mh0 th0 fq_12_20 rfl mw_5_236 dX12_sortOf_1 (fun b_1 hb_1 mb_1 tb_1 => ?_)
  refine lv_bipush (v := 109) hx hb dX12_sortOf_4 (by decide) ?_
  refine lv_iconst (v := 2) hx hb dX12_sortOf_6 (by decide) ?_
  refine lv_iload_n hx hb dX12_sortOf_7 rfl (lv_at hl 1 rfl) ?_
  refine lv_imul hx hb dX12_sortOf_8 ?_
  refine lv_topi (fun x_2 ex_2 => ?_)
  have vx_2 := b_mul (by decide : (2 : Int32).toInt = 2) (rfl : p1.toInt = _) ex_2 (by omega) (by omega)
  refine lv_iadd hx hb dX12_sortOf_9 ?_
  refine lv_topi (fun x_3 ex_3 => ?_)
  have vx_3 := b_add (by decide : (109 : Int32).toInt = 109) (rfl : x_2.toInt = _) ex_3 (by omega) (by omega)
  refine lv_iload_n hx hb dX12_sortOf_10 rfl (lv_at hl 2 rfl) ?_
  refine lv_iadd hx hb dX12_sortOf_11 ?_
  refine lv_topi (fun x_4 ex_4 => ?_)
  have vx_4 := b_add (rfl : x_3.toInt = _) (rfl : p2.toInt = _) ex_4 (by omega) (by omega)
  refine t_aj hx hb hK hB mb_1 tb_1 ai_70 (i_in (by omega) (by omega)) dX12_sortOf_12 (fun x_5 ex_5 lx_5 ux_5 => ?_)
  rw [show ry 70 x_4.toNatClampNeg = (0, 4) from sbB (by have hn : x_4.toNatClampNeg = x_4.toInt.toNat := rfl; omega) (by have hn : x_4.toNatClampNeg = x_4.toInt.toNat := rfl; omega)] at lx_5 ux_5
  have cx_5 := congrArg Int32.toInt ex_5
  exact W.iret (v := x_5) hx hb hr (fun t ht hW => ⟨⟨x_5, (σ, ρ), rfl, ⟨hB.2.1, hB.2.2, (show 0 ≤ (x_5 : Int32).toInt ∧ (x_5 : Int32).toInt ≤ 4 from ⟨by omega, by omega⟩)⟩, (show TP D cA L T r σ ρ t.heap from by rw [ht]; exact hB.1)⟩, hS.F ht⟩) hS.2.2 dX12_sortOf_13
theorem mw_7_96 : (.instanceMethod yX12_sortOf : Cond) ∈ wsA := wsA_t (List.mem_append_right _ (List.mem_append_right _ (List.mem_append_right _ (List.mem_append_right _ (List.mem_append_right _ (List.mem_append_right _ (List.mem_append_left _ (List.mem_of_getElem? (l := tables_1_7) (i := 96) rfl)))))))) rfl
theorem mp_6_4 : (.selects RX12 yX12_sortOf yX12_sortOf : Cond) ∈ wsA := wsA_p (q := (yX12_sortOf, 44)) (List.mem_append_right _ (List.mem_append_right _ (List.mem_append_right _ (List.mem_append_right _ (List.mem_append_right _ (List.mem_append_left _ (List.mem_of_getElem? (l := lw_privs_6) (i := 4) rfl)))))))
theorem mw_1_13 : (.initialized RX12 : Cond) ∈ wsA := wsA_t (List.mem_append_left _ (List.mem_of_getElem? (l := tables_1_1) (i := 13) rfl)) rfl
theorem mw_7_97 : (.code yX12_sortOf cX12_sortOf 3 (some .int) : Cond) ∈ wsA := wsA_t (List.mem_append_right _ (List.mem_append_right _ (List.mem_append_right _ (List.mem_append_right _ (List.mem_append_right _ (List.mem_append_right _ (List.mem_append_left _ (List.mem_of_getElem? (l := tables_1_7) (i := 97) rfl)))))))) rfl
theorem mw_7_94 : (.methodLink RX12 300 yX12_sortOf : Cond) ∈ wsA := wsA_t (List.mem_append_right _ (List.mem_append_right _ (List.mem_append_right _ (List.mem_append_right _ (List.mem_append_right _ (List.mem_append_right _ (List.mem_append_left _ (List.mem_of_getElem? (l := tables_1_7) (i := 94) rfl)))))))) rfl
theorem dX12_asksFor_0 : decode cX12_asksFor 0 = .ok (.aload_n 0, 1) := by decide +kernel
theorem dX12_asksFor_1 : decode cX12_asksFor 1 = .ok (.iload_n 1, 1) := by decide +kernel
theorem dX12_asksFor_2 : decode cX12_asksFor 2 = .ok (.aload_n 0, 1) := by decide +kernel
theorem dX12_asksFor_3 : decode cX12_asksFor 3 = .ok (.getfield 39, 3) := by decide +kernel
theorem dX12_asksFor_6 : decode cX12_asksFor 6 = .ok (.bipush 10, 2) := by decide +kernel
theorem dX12_asksFor_8 : decode cX12_asksFor 8 = .ok (.iload_n 1, 1) := by decide +kernel
theorem dX12_asksFor_9 : decode cX12_asksFor 9 = .ok (.iadd, 1) := by decide +kernel
theorem dX12_asksFor_10 : decode cX12_asksFor 10 = .ok (.iaload, 1) := by decide +kernel
theorem dX12_asksFor_11 : decode cX12_asksFor 11 = .ok (.invokevirtual 300, 3) := by decide +kernel
theorem dX12_asksFor_14 : decode cX12_asksFor 14 = .ok (.ireturn, 1) := by decide +kernel
theorem mv_X12_sortOf : MV RX12 yX12_sortOf cX12_sortOf 3 (some .int) 2 := ⟨mw_7_96, mp_6_4, mw_1_13, mw_7_97, ⟨rfl, by decide, by decide, by decide +kernel⟩⟩
set_option maxHeartbeats 4000000 in
set_option maxRecDepth 100000 in
theorem cy_X12_asksFor (l : Launch) (D : va_G) (cA : Nat → ClassId) (L : List Nat) (T : Nat → Nat) (r : Rg) (hG : GR L T r) (hL : L.Nodup) (σ : Sg) (ρ : Lg) (hW : WT L ry T σ) (sz : Nat) (h0 : Nat) (mh0 : h0 ∈ L) (th0 : T h0 = 12) (p1 : Int32) (w0 : 0 ≤ p1.toInt) (w1 : p1.toInt ≤ 7) : Met l yX12_asksFor (.code yX12_asksFor cX12_asksFor 2 (some .int) :: wsA) ({ frames := 1, cells := 0, slots := 0, locals := 22 }) (PR D cA L T r σ ρ sz [.ref h0, .int p1]) (QI D cA L T r ry ([] : List (Nat × Nat)) σ sz (fun x σ1 => (0 ≤ x.toInt ∧ x.toInt ≤ 4))) 0 0 (dm L sz) := by
  refine Met.ofW (cc := cX12_asksFor) (maxL := 2) (ret := (some .int)) (by decide) rfl ?_
  intro p e s m args below meth c s₁ B hml hv
  obtain ⟨rfl, hsz, hP, hK, hN⟩ := hv
  have hx := B.exec
  have hb := B.bytes
  have hr := B.returns
  have hts : ∀ w ∈ wsA, w.before _ s = true := fun w h => atoms_spec (ws := .code yX12_asksFor cX12_asksFor 2 (some .int) :: wsA) B.pre w (List.mem_cons_of_mem _ h)
  have hown : s.vm.findClass RX12 = some m.cls := findClass_of_methodNamed B.named
  subst hsz
  have hLA : LA (dm L s.heap.size) L := ⟨hL, fun a h => Or.inl h⟩
  have hA : ∀ q : Nat, s.heap.size ≤ q → dm L s.heap.size q := fun q h => Or.inr h
  have hS : va_S (dm L s.heap.size) s.heap s.heap [] := va_S.rf
  have hB : TS D cA L T r ry ([] : List (Nat × Nat)) σ σ ρ s.heap := ⟨hP, hW, FR.rf⟩
  have hl := lv_entry ([.ref h0, .int p1]) (n := 2) (Nat.le_of_ble_eq_true rfl)
  rw [lg_entry_eq]
  generalize (lg_sl ([.ref h0, .int p1]) ++ List.replicate (2 - (lg_sl ([.ref h0, .int p1])).length) Slot.unset).toArray = ls at hl ⊢
  have hl : lv_has ls 2 [(0, .ref h0), (1, .int p1)] := hl
  refine lv_aload_n hx hb dX12_asksFor_0 rfl (lv_at hl 0 rfl) ?_
  refine lv_iload_n hx hb dX12_asksFor_1 rfl (lv_at hl 1 rfl) ?_
  refine lv_aload_n hx hb dX12_asksFor_2 rfl (lv_at hl 0 rfl) ?_
  refine t_gr hx hb hts hown hK hG hB mh0 th0 fq_12_20 rfl mw_5_236 dX12_asksFor_3 (fun b_1 hb_1 mb_1 tb_1 => ?_)
  refine lv_bipush (v := 10) hx hb dX12_asksFor_6 (by decide) ?_
  refine lv_iload_n hx hb dX12_asksFor_8 rfl (lv_at hl 1 rfl) ?_
  refine lv_iadd hx hb dX12_asksFor_9 ?_
  refine lv_topi (fun x_2 ex_2 => ?_)
  have vx_2 := b_add (by decide : (10 : Int32).toInt = 10) (rfl : p1.toInt = _) ex_2 (by omega) (by omega)
  refine t_aj hx hb hK hB mb_1 tb_1 ai_70 (i_in (by omega) (by omega)) dX12_asksFor_10 (fun x_3 ex_3 lx_3 ux_3 => ?_)
  rw [show ry 70 x_2.toNatClampNeg = (0, 1) from sbT (by have hn : x_2.toNatClampNeg = x_2.toInt.toNat := rfl; omega) (by have hn : x_2.toNatClampNeg = x_2.toInt.toNat := rfl; omega)] at lx_3 ux_3
  have cx_3 := congrArg Int32.toInt ex_3
  refine t_ci (va_runV (As := [.int p1, .int x_3]) (rest := []) ⟨hx, hb, hml, hown, hts⟩ (cy_X12_sortOf l D cA L T r hG hLA.1 σ ρ hB.2.1 _ h0 mh0 th0 p1 x_3 (by first | omega | decide) (by first | omega | decide) (by first | omega | decide) (by first | omega | decide)) (cV hts mv_X12_sortOf mw_7_94 rfl rfl ⟨Nat.le_of_ble_eq_true rfl, Nat.le_of_ble_eq_true rfl⟩) (pV hB.1 hK hN mh0 th0 (show shp cA 12 _ _ _ = .inr (12, Fs12 _ _ _) from rfl) rfl) rfl rfl hl.1 rfl (lv_room (Nat.le_of_ble_eq_true rfl)) dX12_asksFor_11 ⟨Nat.le_of_ble_eq_true rfl, Nat.le_of_ble_eq_true rfl⟩) hLA hA hB hS (by decide) (fun x_6 σ_4 ρ_5 H locs hB fσ_4 pσ_4 hS => ?_)
  have qσ_4 := FR.nil fσ_4
  subst qσ_4
  obtain ⟨lx_6, ux_6⟩ := pσ_4
  exact W.iret (v := x_6) hx hb hr (fun t ht hW => ⟨⟨x_6, (σ, ρ_5), rfl, ⟨hB.2.1, hB.2.2, (show 0 ≤ (x_6 : Int32).toInt ∧ (x_6 : Int32).toInt ≤ 4 from ⟨by omega, by omega⟩)⟩, (show TP D cA L T r σ ρ_5 t.heap from by rw [ht]; exact hB.1)⟩, hS.F ht⟩) hS.2.2 dX12_asksFor_14
theorem mw_7_79 : (.instanceMethod yX12_hasOf : Cond) ∈ wsA := wsA_t (List.mem_append_right _ (List.mem_append_right _ (List.mem_append_right _ (List.mem_append_right _ (List.mem_append_right _ (List.mem_append_right _ (List.mem_append_left _ (List.mem_of_getElem? (l := tables_1_7) (i := 79) rfl)))))))) rfl
theorem mp_6_1 : (.selects RX12 yX12_hasOf yX12_hasOf : Cond) ∈ wsA := wsA_p (q := (yX12_hasOf, 44)) (List.mem_append_right _ (List.mem_append_right _ (List.mem_append_right _ (List.mem_append_right _ (List.mem_append_right _ (List.mem_append_left _ (List.mem_of_getElem? (l := lw_privs_6) (i := 1) rfl)))))))
theorem mw_7_80 : (.code yX12_hasOf cX12_hasOf 3 (some .int) : Cond) ∈ wsA := wsA_t (List.mem_append_right _ (List.mem_append_right _ (List.mem_append_right _ (List.mem_append_right _ (List.mem_append_right _ (List.mem_append_right _ (List.mem_append_left _ (List.mem_of_getElem? (l := tables_1_7) (i := 80) rfl)))))))) rfl
theorem mw_7_77 : (.methodLink RX12 304 yX12_hasOf : Cond) ∈ wsA := wsA_t (List.mem_append_right _ (List.mem_append_right _ (List.mem_append_right _ (List.mem_append_right _ (List.mem_append_right _ (List.mem_append_right _ (List.mem_append_left _ (List.mem_of_getElem? (l := tables_1_7) (i := 77) rfl)))))))) rfl
theorem mw_7_83 : (.instanceMethod yX12_weightOf : Cond) ∈ wsA := wsA_t (List.mem_append_right _ (List.mem_append_right _ (List.mem_append_right _ (List.mem_append_right _ (List.mem_append_right _ (List.mem_append_right _ (List.mem_append_left _ (List.mem_of_getElem? (l := tables_1_7) (i := 83) rfl)))))))) rfl
theorem mp_6_2 : (.selects RX12 yX12_weightOf yX12_weightOf : Cond) ∈ wsA := wsA_p (q := (yX12_weightOf, 44)) (List.mem_append_right _ (List.mem_append_right _ (List.mem_append_right _ (List.mem_append_right _ (List.mem_append_right _ (List.mem_append_left _ (List.mem_of_getElem? (l := lw_privs_6) (i := 2) rfl)))))))
theorem mw_7_84 : (.code yX12_weightOf cX12_weightOf 2 (some .int) : Cond) ∈ wsA := wsA_t (List.mem_append_right _ (List.mem_append_right _ (List.mem_append_right _ (List.mem_append_right _ (List.mem_append_right _ (List.mem_append_right _ (List.mem_append_left _ (List.mem_of_getElem? (l := tables_1_7) (i := 84) rfl)))))))) rfl
theorem mw_7_81 : (.methodLink RX12 307 yX12_weightOf : Cond) ∈ wsA := wsA_t (List.mem_append_right _ (List.mem_append_right _ (List.mem_append_right _ (List.mem_append_right _ (List.mem_append_right _ (List.mem_append_right _ (List.mem_append_left _ (List.mem_of_getElem? (l := tables_1_7) (i := 81) rfl)))))))) rfl
theorem dX12_carried_0 : decode cX12_carried 0 = .ok (.iconst 0, 1) := by decide +kernel
theorem dX12_carried_1 : decode cX12_carried 1 = .ok (.istore_n 2, 1) := by decide +kernel
theorem dX12_carried_2 : decode cX12_carried 2 = .ok (.iconst 0, 1) := by decide +kernel
theorem dX12_carried_3 : decode cX12_carried 3 = .ok (.istore_n 3, 1) := by decide +kernel
theorem dX12_carried_4 : decode cX12_carried 4 = .ok (.iload_n 3, 1) := by decide +kernel
theorem dX12_carried_5 : decode cX12_carried 5 = .ok (.aload_n 0, 1) := by decide +kernel
theorem dX12_carried_6 : decode cX12_carried 6 = .ok (.getfield 39, 3) := by decide +kernel
theorem dX12_carried_9 : decode cX12_carried 9 = .ok (.iconst 1, 1) := by decide +kernel
theorem dX12_carried_10 : decode cX12_carried 10 = .ok (.iaload, 1) := by decide +kernel
theorem dX12_carried_11 : decode cX12_carried 11 = .ok (.if_icmp .ge 24, 3) := by decide +kernel
theorem dX12_carried_14 : decode cX12_carried 14 = .ok (.iload_n 2, 1) := by decide +kernel
theorem dX12_carried_15 : decode cX12_carried 15 = .ok (.aload_n 0, 1) := by decide +kernel
theorem dX12_carried_16 : decode cX12_carried 16 = .ok (.iload_n 1, 1) := by decide +kernel
theorem dX12_carried_17 : decode cX12_carried 17 = .ok (.iload_n 3, 1) := by decide +kernel
theorem dX12_carried_18 : decode cX12_carried 18 = .ok (.invokevirtual 304, 3) := by decide +kernel
theorem dX12_carried_21 : decode cX12_carried 21 = .ok (.aload_n 0, 1) := by decide +kernel
theorem dX12_carried_22 : decode cX12_carried 22 = .ok (.iload_n 3, 1) := by decide +kernel
theorem dX12_carried_23 : decode cX12_carried 23 = .ok (.invokevirtual 307, 3) := by decide +kernel
theorem dX12_carried_26 : decode cX12_carried 26 = .ok (.imul, 1) := by decide +kernel
theorem dX12_carried_27 : decode cX12_carried 27 = .ok (.iadd, 1) := by decide +kernel
theorem dX12_carried_28 : decode cX12_carried 28 = .ok (.istore_n 2, 1) := by decide +kernel
theorem dX12_carried_29 : decode cX12_carried 29 = .ok (.iinc 3 1, 3) := by decide +kernel
theorem dX12_carried_32 : decode cX12_carried 32 = .ok (.goto (-28), 3) := by decide +kernel
theorem dX12_carried_35 : decode cX12_carried 35 = .ok (.iload_n 2, 1) := by decide +kernel
theorem dX12_carried_36 : decode cX12_carried 36 = .ok (.ireturn, 1) := by decide +kernel
theorem mv_X12_hasOf : MV RX12 yX12_hasOf cX12_hasOf 3 (some .int) 2 := ⟨mw_7_79, mp_6_1, mw_1_13, mw_7_80, ⟨rfl, by decide, by decide, by decide +kernel⟩⟩
theorem mv_X12_weightOf : MV RX12 yX12_weightOf cX12_weightOf 2 (some .int) 1 := ⟨mw_7_83, mp_6_2, mw_1_13, mw_7_84, ⟨rfl, by decide, by decide, by decide +kernel⟩⟩
set_option maxHeartbeats 4000000 in
set_option maxRecDepth 100000 in
theorem cy_X12_carried (l : Launch) (D : va_G) (cA : Nat → ClassId) (L : List Nat) (T : Nat → Nat) (r : Rg) (hG : GR L T r) (hL : L.Nodup) (σ : Sg) (ρ : Lg) (hW : WT L ry T σ) (sz : Nat) (h0 : Nat) (mh0 : h0 ∈ L) (th0 : T h0 = 12) (p1 : Int32) (w0 : 0 ≤ p1.toInt) (w1 : p1.toInt ≤ 3) : Met l yX12_carried (.code yX12_carried cX12_carried 4 (some .int) :: wsA) ({ frames := 1, cells := 0, slots := 0, locals := 22 }) (PR D cA L T r σ ρ sz [.ref h0, .int p1]) (QI D cA L T r ry ([] : List (Nat × Nat)) σ sz (fun x σ1 => True)) 0 0 (dm L sz) := by
  refine Met.ofW (cc := cX12_carried) (maxL := 4) (ret := (some .int)) (by decide) rfl ?_
  intro p e s m args below meth c s₁ B hml hv
  obtain ⟨rfl, hsz, hP, hK, hN⟩ := hv
  have hx := B.exec
  have hb := B.bytes
  have hr := B.returns
  have hts : ∀ w ∈ wsA, w.before _ s = true := fun w h => atoms_spec (ws := .code yX12_carried cX12_carried 4 (some .int) :: wsA) B.pre w (List.mem_cons_of_mem _ h)
  have hown : s.vm.findClass RX12 = some m.cls := findClass_of_methodNamed B.named
  subst hsz
  have hLA : LA (dm L s.heap.size) L := ⟨hL, fun a h => Or.inl h⟩
  have hA : ∀ q : Nat, s.heap.size ≤ q → dm L s.heap.size q := fun q h => Or.inr h
  have hS : va_S (dm L s.heap.size) s.heap s.heap [] := va_S.rf
  have hB : TS D cA L T r ry ([] : List (Nat × Nat)) σ σ ρ s.heap := ⟨hP, hW, FR.rf⟩
  have hl := lv_entry ([.ref h0, .int p1]) (n := 4) (Nat.le_of_ble_eq_true rfl)
  rw [lg_entry_eq]
  generalize (lg_sl ([.ref h0, .int p1]) ++ List.replicate (4 - (lg_sl ([.ref h0, .int p1])).length) Slot.unset).toArray = ls at hl ⊢
  have hl : lv_has ls 4 [(0, .ref h0), (1, .int p1)] := hl
  refine lv_iconst (v := 0) hx hb dX12_carried_0 (by decide) ?_
  refine lv_istore_n (lv' := [(2, .int 0), (0, .ref h0), (1, .int p1)]) hx hb dX12_carried_1 rfl hl (by decide) rfl (fun ls hl => ?_)
  refine lv_iconst (v := 0) hx hb dX12_carried_2 (by decide) ?_
  refine lv_istore_n (lv' := [(3, .int 0), (2, .int 0), (0, .ref h0), (1, .int p1)]) hx hb dX12_carried_3 rfl hl (by decide) rfl (fun ls hl => ?_)
  refine w_loop (α := Int32 × Int32 × Sg × Lg) (fun (i_1, i_2, σ_3, ρ_4) H locs ls => 0 ≤ i_2.toInt ∧ i_2.toInt ≤ 5 ∧ TS D cA L T r ry ([] : List (Nat × Nat)) σ σ_3 ρ_4 H ∧ va_S (dm L s.heap.size) s.heap H locs ∧ lv_has ls 4 [(3, .int i_2), (2, .int i_1), (0, .ref h0), (1, .int p1)]) (fun (i_1, i_2, σ_3, ρ_4) => (5 - i_2.toInt).toNat) ?_ ⟨0, 0, σ, ρ⟩ ⟨(by decide), (by decide), hB, hS, lv_sub hl [0, 1, 2, 3] rfl⟩
  rintro ⟨i_1, i_2, σ_3, ρ_4⟩ H locs ls ⟨li_2, ui_2, hB, hS, hl⟩ ih_5
  refine lv_iload_n hx hb dX12_carried_4 rfl (lv_at hl 0 rfl) ?_
  refine lv_aload_n hx hb dX12_carried_5 rfl (lv_at hl 2 rfl) ?_
  refine t_gr hx hb hts hown hK hG hB mh0 th0 fq_12_20 rfl mw_5_236 dX12_carried_6 (fun b_6 hb_6 mb_6 tb_6 => ?_)
  refine lv_iconst (v := 1) hx hb dX12_carried_9 (by decide) ?_
  refine t_aj hx hb hK hB mb_6 tb_6 ai_70 (i_in (by decide) (by decide)) dX12_carried_10 (fun x_7 ex_7 lx_7 ux_7 => ?_)
  have lx_7 : 0 ≤ x_7.toInt := lx_7
  have ux_7 : x_7.toInt ≤ 5 := ux_7
  have cx_7 := congrArg Int32.toInt ex_7
  refine lv_icmp_ge (tgt := 35) hx hb dX12_carried_11 (by decide) (fun c_8 => ?_) (fun c_8 => ?_)
  · skip
    have uc_8 := j_le c_8
    refine lv_iload_n hx hb dX12_carried_35 rfl (lv_at hl 1 rfl) ?_
    exact W.iret (v := i_1) hx hb hr (fun t ht hW => ⟨⟨i_1, (σ_3, ρ_4), rfl, ⟨hB.2.1, hB.2.2, trivial⟩, (show TP D cA L T r σ_3 ρ_4 t.heap from by rw [ht]; exact hB.1)⟩, hS.F ht⟩) hS.2.2 dX12_carried_36
  · skip
    have uc_8 := j_nle c_8
    refine lv_iload_n hx hb dX12_carried_14 rfl (lv_at hl 1 rfl) ?_
    refine lv_aload_n hx hb dX12_carried_15 rfl (lv_at hl 2 rfl) ?_
    refine lv_iload_n hx hb dX12_carried_16 rfl (lv_at hl 3 rfl) ?_
    refine lv_iload_n hx hb dX12_carried_17 rfl (lv_at hl 0 rfl) ?_
    refine t_ci (va_runV (As := [.int p1, .int i_2]) (rest := [.int i_1]) ⟨hx, hb, hml, hown, hts⟩ (cy_X12_hasOf l D cA L T r hG hLA.1 σ_3 ρ_4 hB.2.1 _ h0 mh0 th0 p1 i_2 (by first | omega | decide) (by first | omega | decide) (by first | omega | decide) (by first | omega | decide)) (cV hts mv_X12_hasOf mw_7_77 rfl rfl ⟨Nat.le_of_ble_eq_true rfl, Nat.le_of_ble_eq_true rfl⟩) (pV hB.1 hK hN mh0 th0 (show shp cA 12 _ _ _ = .inr (12, Fs12 _ _ _) from rfl) rfl) rfl rfl hl.1 rfl (lv_room (Nat.le_of_ble_eq_true rfl)) dX12_carried_18 ⟨Nat.le_of_ble_eq_true rfl, Nat.le_of_ble_eq_true rfl⟩) hLA hA hB hS (by decide) (fun x_11 σ_9 ρ_10 H locs hB fσ_9 pσ_9 hS => ?_)
    have qσ_9 := FR.nil fσ_9
    subst qσ_9
    refine lv_aload_n hx hb dX12_carried_21 rfl (lv_at hl 2 rfl) ?_
    refine lv_iload_n hx hb dX12_carried_22 rfl (lv_at hl 0 rfl) ?_
    refine t_ci (va_runV (As := [.int i_2]) (rest := [.int x_11, .int i_1]) ⟨hx, hb, hml, hown, hts⟩ (cy_X12_weightOf l D cA L T r hG hLA.1 σ_3 ρ_10 hB.2.1 _ h0 mh0 th0 i_2 (by first | omega | decide) (by first | omega | decide)) (cV hts mv_X12_weightOf mw_7_81 rfl rfl ⟨Nat.le_of_ble_eq_true rfl, Nat.le_of_ble_eq_true rfl⟩) (pV hB.1 hK hN mh0 th0 (show shp cA 12 _ _ _ = .inr (12, Fs12 _ _ _) from rfl) rfl) rfl rfl hl.1 rfl (lv_room (Nat.le_of_ble_eq_true rfl)) dX12_carried_23 ⟨Nat.le_of_ble_eq_true rfl, Nat.le_of_ble_eq_true rfl⟩) hLA hA hB hS (by decide) (fun x_14 σ_12 ρ_13 H locs hB fσ_12 pσ_12 hS => ?_)
    have qσ_12 := FR.nil fσ_12
    subst qσ_12
    refine lv_imul hx hb dX12_carried_26 ?_
    refine lv_topi (fun x_15 ex_15 => ?_)
    refine lv_iadd hx hb dX12_carried_27 ?_
    refine lv_topi (fun x_16 ex_16 => ?_)
    try have vx_16 := b_add (rfl : i_1.toInt = _) (rfl : x_15.toInt = _) ex_16 (by omega) (by omega)
    refine lv_istore_n (lv' := [(2, .int x_16), (3, .int i_2), (0, .ref h0), (1, .int p1)]) hx hb dX12_carried_28 rfl hl (by decide) rfl (fun ls hl => ?_)
    obtain ⟨x_17, ex_17⟩ : ∃ y : Int32, y = i_2 + 1 := ⟨_, rfl⟩
    have vx_17 := b_add (rfl : i_2.toInt = _) (by decide : (1 : Int32).toInt = 1) ex_17 (by omega) (by omega)
    refine lv_iinc (v := x_17) (lv' := [(3, .int x_17), (2, .int x_16), (0, .ref h0), (1, .int p1)]) hx hb dX12_carried_29 hl (k := 1) rfl (by rw [ex_17]; rfl) (by decide) rfl (fun ls hl => ?_)
    refine lv_goto (tgt := 4) hx hb dX12_carried_32 (by decide) ?_
    exact ih_5 ⟨x_16, x_17, σ_3, ρ_13⟩ _ _ _ ⟨(by omega), (by omega), hB, hS, lv_sub hl [0, 1, 2, 3] rfl⟩ (by show (5 - x_17.toInt).toNat < (5 - i_2.toInt).toNat; omega)
theorem mw_7_75 : (.instanceMethod yX12_carried : Cond) ∈ wsA := wsA_t (List.mem_append_right _ (List.mem_append_right _ (List.mem_append_right _ (List.mem_append_right _ (List.mem_append_right _ (List.mem_append_right _ (List.mem_append_left _ (List.mem_of_getElem? (l := tables_1_7) (i := 75) rfl)))))))) rfl
theorem mp_6_0 : (.selects RX12 yX12_carried yX12_carried : Cond) ∈ wsA := wsA_p (q := (yX12_carried, 44)) (List.mem_append_right _ (List.mem_append_right _ (List.mem_append_right _ (List.mem_append_right _ (List.mem_append_right _ (List.mem_append_left _ (List.mem_of_getElem? (l := lw_privs_6) (i := 0) rfl)))))))
theorem mw_7_76 : (.code yX12_carried cX12_carried 4 (some .int) : Cond) ∈ wsA := wsA_t (List.mem_append_right _ (List.mem_append_right _ (List.mem_append_right _ (List.mem_append_right _ (List.mem_append_right _ (List.mem_append_right _ (List.mem_append_left _ (List.mem_of_getElem? (l := tables_1_7) (i := 76) rfl)))))))) rfl
theorem mw_7_73 : (.methodLink RX12 310 yX12_carried : Cond) ∈ wsA := wsA_t (List.mem_append_right _ (List.mem_append_right _ (List.mem_append_right _ (List.mem_append_right _ (List.mem_append_right _ (List.mem_append_right _ (List.mem_append_left _ (List.mem_of_getElem? (l := tables_1_7) (i := 73) rfl)))))))) rfl
theorem dX12_canCarry_0 : decode cX12_canCarry 0 = .ok (.aload_n 0, 1) := by decide +kernel
theorem dX12_canCarry_1 : decode cX12_canCarry 1 = .ok (.iload_n 1, 1) := by decide +kernel
theorem dX12_canCarry_2 : decode cX12_canCarry 2 = .ok (.iload_n 2, 1) := by decide +kernel
theorem dX12_canCarry_3 : decode cX12_canCarry 3 = .ok (.invokevirtual 304, 3) := by decide +kernel
theorem dX12_canCarry_6 : decode cX12_canCarry 6 = .ok (.bipush 9, 2) := by decide +kernel
theorem dX12_canCarry_8 : decode cX12_canCarry 8 = .ok (.if_icmp .ge 27, 3) := by decide +kernel
theorem dX12_canCarry_35 : decode cX12_canCarry 35 = .ok (.iconst 0, 1) := by decide +kernel
theorem dX12_canCarry_36 : decode cX12_canCarry 36 = .ok (.ireturn, 1) := by decide +kernel
theorem dX12_canCarry_11 : decode cX12_canCarry 11 = .ok (.aload_n 0, 1) := by decide +kernel
theorem dX12_canCarry_12 : decode cX12_canCarry 12 = .ok (.iload_n 1, 1) := by decide +kernel
theorem dX12_canCarry_13 : decode cX12_canCarry 13 = .ok (.invokevirtual 310, 3) := by decide +kernel
theorem dX12_canCarry_16 : decode cX12_canCarry 16 = .ok (.aload_n 0, 1) := by decide +kernel
theorem dX12_canCarry_17 : decode cX12_canCarry 17 = .ok (.iload_n 2, 1) := by decide +kernel
theorem dX12_canCarry_18 : decode cX12_canCarry 18 = .ok (.invokevirtual 307, 3) := by decide +kernel
theorem dX12_canCarry_21 : decode cX12_canCarry 21 = .ok (.iadd, 1) := by decide +kernel
theorem dX12_canCarry_22 : decode cX12_canCarry 22 = .ok (.aload_n 0, 1) := by decide +kernel
theorem dX12_canCarry_23 : decode cX12_canCarry 23 = .ok (.getfield 39, 3) := by decide +kernel
theorem dX12_canCarry_26 : decode cX12_canCarry 26 = .ok (.iconst 0, 1) := by decide +kernel
theorem dX12_canCarry_27 : decode cX12_canCarry 27 = .ok (.iaload, 1) := by decide +kernel
theorem dX12_canCarry_28 : decode cX12_canCarry 28 = .ok (.if_icmp .gt 7, 3) := by decide +kernel
theorem dX12_canCarry_31 : decode cX12_canCarry 31 = .ok (.iconst 1, 1) := by decide +kernel
theorem dX12_canCarry_32 : decode cX12_canCarry 32 = .ok (.goto 4, 3) := by decide +kernel
theorem mv_X12_carried : MV RX12 yX12_carried cX12_carried 4 (some .int) 1 := ⟨mw_7_75, mp_6_0, mw_1_13, mw_7_76, ⟨rfl, by decide, by decide, by decide +kernel⟩⟩
set_option maxHeartbeats 4000000 in
set_option maxRecDepth 100000 in
theorem cy_X12_canCarry (l : Launch) (D : va_G) (cA : Nat → ClassId) (L : List Nat) (T : Nat → Nat) (r : Rg) (hG : GR L T r) (hL : L.Nodup) (σ : Sg) (ρ : Lg) (hW : WT L ry T σ) (sz : Nat) (h0 : Nat) (mh0 : h0 ∈ L) (th0 : T h0 = 12) (p1 : Int32) (p2 : Int32) (w0 : 0 ≤ p1.toInt) (w1 : p1.toInt ≤ 3) (w2 : 0 ≤ p2.toInt) (w3 : p2.toInt ≤ 4) : Met l yX12_canCarry (.code yX12_canCarry cX12_canCarry 3 (some .boolean) :: wsA) ({ frames := 2, cells := 0, slots := 0, locals := 45 }) (PR D cA L T r σ ρ sz [.ref h0, .int p1, .int p2]) (QI D cA L T r ry ([] : List (Nat × Nat)) σ sz (fun x σ1 => (0 ≤ x.toInt ∧ x.toInt ≤ 1))) 0 0 (dm L sz) := by
  refine Met.ofW (cc := cX12_canCarry) (maxL := 3) (ret := (some .boolean)) (by decide) rfl ?_
  intro p e s m args below meth c s₁ B hml hv
  obtain ⟨rfl, hsz, hP, hK, hN⟩ := hv
  have hx := B.exec
  have hb := B.bytes
  have hr := B.returns
  have hts : ∀ w ∈ wsA, w.before _ s = true := fun w h => atoms_spec (ws := .code yX12_canCarry cX12_canCarry 3 (some .boolean) :: wsA) B.pre w (List.mem_cons_of_mem _ h)
  have hown : s.vm.findClass RX12 = some m.cls := findClass_of_methodNamed B.named
  subst hsz
  have hLA : LA (dm L s.heap.size) L := ⟨hL, fun a h => Or.inl h⟩
  have hA : ∀ q : Nat, s.heap.size ≤ q → dm L s.heap.size q := fun q h => Or.inr h
  have hS : va_S (dm L s.heap.size) s.heap s.heap [] := va_S.rf
  have hB : TS D cA L T r ry ([] : List (Nat × Nat)) σ σ ρ s.heap := ⟨hP, hW, FR.rf⟩
  have hl := lv_entry ([.ref h0, .int p1, .int p2]) (n := 3) (Nat.le_of_ble_eq_true rfl)
  rw [lg_entry_eq]
  generalize (lg_sl ([.ref h0, .int p1, .int p2]) ++ List.replicate (3 - (lg_sl ([.ref h0, .int p1, .int p2])).length) Slot.unset).toArray = ls at hl ⊢
  have hl : lv_has ls 3 [(0, .ref h0), (1, .int p1), (2, .int p2)] := hl
  refine lv_aload_n hx hb dX12_canCarry_0 rfl (lv_at hl 0 rfl) ?_
  refine lv_iload_n hx hb dX12_canCarry_1 rfl (lv_at hl 1 rfl) ?_
  refine lv_iload_n hx hb dX12_canCarry_2 rfl (lv_at hl 2 rfl) ?_
  refine t_ci (va_runV (As := [.int p1, .int p2]) (rest := []) ⟨hx, hb, hml, hown, hts⟩ (cy_X12_hasOf l D cA L T r hG hLA.1 σ ρ hB.2.1 _ h0 mh0 th0 p1 p2 (by first | omega | decide) (by first | omega | decide) (by first | omega | decide) (by first | omega | decide)) (cV hts mv_X12_hasOf mw_7_77 rfl rfl ⟨Nat.le_of_ble_eq_true rfl, Nat.le_of_ble_eq_true rfl⟩) (pV hB.1 hK hN mh0 th0 (show shp cA 12 _ _ _ = .inr (12, Fs12 _ _ _) from rfl) rfl) rfl rfl hl.1 rfl (lv_room (Nat.le_of_ble_eq_true rfl)) dX12_canCarry_3 ⟨Nat.le_of_ble_eq_true rfl, Nat.le_of_ble_eq_true rfl⟩) hLA hA hB hS (by decide) (fun x_3 σ_1 ρ_2 H locs hB fσ_1 pσ_1 hS => ?_)
  have qσ_1 := FR.nil fσ_1
  subst qσ_1
  refine lv_bipush (v := 9) hx hb dX12_canCarry_6 (by decide) ?_
  refine lv_icmp_ge (tgt := 35) hx hb dX12_canCarry_8 (by decide) (fun c_4 => ?_) (fun c_4 => ?_)
  · skip
    have uc_4 := i_ge (n := 9) (by decide) c_4
    refine lv_iconst (v := 0) hx hb dX12_canCarry_35 (by decide) ?_
    exact W.zret (v := 0) hx hb hr rfl (fun t ht hW => ⟨⟨0, (σ, ρ_2), rfl, ⟨hB.2.1, hB.2.2, (show 0 ≤ (0 : Int32).toInt ∧ (0 : Int32).toInt ≤ 1 from ⟨by decide, by decide⟩)⟩, (show TP D cA L T r σ ρ_2 t.heap from by rw [ht]; exact hB.1)⟩, hS.F ht⟩) hS.2.2 dX12_canCarry_36
  · skip
    have uc_4 := i_nge (n := 9) (by decide) c_4
    refine lv_aload_n hx hb dX12_canCarry_11 rfl (lv_at hl 0 rfl) ?_
    refine lv_iload_n hx hb dX12_canCarry_12 rfl (lv_at hl 1 rfl) ?_
    refine t_ci (va_runV (As := [.int p1]) (rest := []) ⟨hx, hb, hml, hown, hts⟩ (cy_X12_carried l D cA L T r hG hLA.1 σ ρ_2 hB.2.1 _ h0 mh0 th0 p1 (by first | omega | decide) (by first | omega | decide)) (cV hts mv_X12_carried mw_7_73 rfl rfl ⟨Nat.le_of_ble_eq_true rfl, Nat.le_of_ble_eq_true rfl⟩) (pV hB.1 hK hN mh0 th0 (show shp cA 12 _ _ _ = .inr (12, Fs12 _ _ _) from rfl) rfl) rfl rfl hl.1 rfl (lv_room (Nat.le_of_ble_eq_true rfl)) dX12_canCarry_13 ⟨Nat.le_of_ble_eq_true rfl, Nat.le_of_ble_eq_true rfl⟩) hLA hA hB hS (by decide) (fun x_7 σ_5 ρ_6 H locs hB fσ_5 pσ_5 hS => ?_)
    have qσ_5 := FR.nil fσ_5
    subst qσ_5
    refine lv_aload_n hx hb dX12_canCarry_16 rfl (lv_at hl 0 rfl) ?_
    refine lv_iload_n hx hb dX12_canCarry_17 rfl (lv_at hl 2 rfl) ?_
    refine t_ci (va_runV (As := [.int p2]) (rest := [.int x_7]) ⟨hx, hb, hml, hown, hts⟩ (cy_X12_weightOf l D cA L T r hG hLA.1 σ ρ_6 hB.2.1 _ h0 mh0 th0 p2 (by first | omega | decide) (by first | omega | decide)) (cV hts mv_X12_weightOf mw_7_81 rfl rfl ⟨Nat.le_of_ble_eq_true rfl, Nat.le_of_ble_eq_true rfl⟩) (pV hB.1 hK hN mh0 th0 (show shp cA 12 _ _ _ = .inr (12, Fs12 _ _ _) from rfl) rfl) rfl rfl hl.1 rfl (lv_room (Nat.le_of_ble_eq_true rfl)) dX12_canCarry_18 ⟨Nat.le_of_ble_eq_true rfl, Nat.le_of_ble_eq_true rfl⟩) hLA hA hB hS (by decide) (fun x_10 σ_8 ρ_9 H locs hB fσ_8 pσ_8 hS => ?_)
    have qσ_8 := FR.nil fσ_8
    subst qσ_8
    refine lv_iadd hx hb dX12_canCarry_21 ?_
    refine lv_topi (fun x_11 ex_11 => ?_)
    try have vx_11 := b_add (rfl : x_7.toInt = _) (rfl : x_10.toInt = _) ex_11 (by omega) (by omega)
    refine lv_aload_n hx hb dX12_canCarry_22 rfl (lv_at hl 0 rfl) ?_
    refine t_gr hx hb hts hown hK hG hB mh0 th0 fq_12_20 rfl mw_5_236 dX12_canCarry_23 (fun b_12 hb_12 mb_12 tb_12 => ?_)
    refine lv_iconst (v := 0) hx hb dX12_canCarry_26 (by decide) ?_
    refine t_aj hx hb hK hB mb_12 tb_12 ai_70 (i_in (by decide) (by decide)) dX12_canCarry_27 (fun x_13 ex_13 lx_13 ux_13 => ?_)
    have lx_13 : (-2147483648) ≤ x_13.toInt := lx_13
    have ux_13 : x_13.toInt ≤ 2147483647 := ux_13
    have cx_13 := congrArg Int32.toInt ex_13
    refine lv_icmp_gt (tgt := 35) hx hb dX12_canCarry_28 (by decide) (fun c_14 => ?_) (fun c_14 => ?_)
    · skip
      have uc_14 := j_lt c_14
      refine lv_iconst (v := 0) hx hb dX12_canCarry_35 (by decide) ?_
      exact W.zret (v := 0) hx hb hr rfl (fun t ht hW => ⟨⟨0, (σ, ρ_9), rfl, ⟨hB.2.1, hB.2.2, (show 0 ≤ (0 : Int32).toInt ∧ (0 : Int32).toInt ≤ 1 from ⟨by decide, by decide⟩)⟩, (show TP D cA L T r σ ρ_9 t.heap from by rw [ht]; exact hB.1)⟩, hS.F ht⟩) hS.2.2 dX12_canCarry_36
    · skip
      have uc_14 := j_nlt c_14
      refine lv_iconst (v := 1) hx hb dX12_canCarry_31 (by decide) ?_
      refine lv_goto (tgt := 36) hx hb dX12_canCarry_32 (by decide) ?_
      exact W.zret (v := 1) hx hb hr rfl (fun t ht hW => ⟨⟨1, (σ, ρ_9), rfl, ⟨hB.2.1, hB.2.2, (show 0 ≤ (1 : Int32).toInt ∧ (1 : Int32).toInt ≤ 1 from ⟨by decide, by decide⟩)⟩, (show TP D cA L T r σ ρ_9 t.heap from by rw [ht]; exact hB.1)⟩, hS.F ht⟩) hS.2.2 dX12_canCarry_36
theorem mw_7_104 : (.instanceMethod yX12_heapOf : Cond) ∈ wsA := wsA_t (List.mem_append_right _ (List.mem_append_right _ (List.mem_append_right _ (List.mem_append_right _ (List.mem_append_right _ (List.mem_append_right _ (List.mem_append_left _ (List.mem_of_getElem? (l := tables_1_7) (i := 104) rfl)))))))) rfl
theorem mp_6_6 : (.selects RX12 yX12_heapOf yX12_heapOf : Cond) ∈ wsA := wsA_p (q := (yX12_heapOf, 44)) (List.mem_append_right _ (List.mem_append_right _ (List.mem_append_right _ (List.mem_append_right _ (List.mem_append_right _ (List.mem_append_left _ (List.mem_of_getElem? (l := lw_privs_6) (i := 6) rfl)))))))
theorem mw_7_105 : (.code yX12_heapOf cX12_heapOf 3 (some .int) : Cond) ∈ wsA := wsA_t (List.mem_append_right _ (List.mem_append_right _ (List.mem_append_right _ (List.mem_append_right _ (List.mem_append_right _ (List.mem_append_right _ (List.mem_append_left _ (List.mem_of_getElem? (l := tables_1_7) (i := 105) rfl)))))))) rfl
theorem mw_7_102 : (.methodLink RX12 313 yX12_heapOf : Cond) ∈ wsA := wsA_t (List.mem_append_right _ (List.mem_append_right _ (List.mem_append_right _ (List.mem_append_right _ (List.mem_append_right _ (List.mem_append_right _ (List.mem_append_left _ (List.mem_of_getElem? (l := tables_1_7) (i := 102) rfl)))))))) rfl
theorem dX12_heapMany_0 : decode cX12_heapMany 0 = .ok (.iconst 0, 1) := by decide +kernel
theorem dX12_heapMany_1 : decode cX12_heapMany 1 = .ok (.istore_n 2, 1) := by decide +kernel
theorem dX12_heapMany_2 : decode cX12_heapMany 2 = .ok (.iconst 0, 1) := by decide +kernel
theorem dX12_heapMany_3 : decode cX12_heapMany 3 = .ok (.istore_n 3, 1) := by decide +kernel
theorem dX12_heapMany_4 : decode cX12_heapMany 4 = .ok (.iload_n 3, 1) := by decide +kernel
theorem dX12_heapMany_5 : decode cX12_heapMany 5 = .ok (.aload_n 0, 1) := by decide +kernel
theorem dX12_heapMany_6 : decode cX12_heapMany 6 = .ok (.getfield 39, 3) := by decide +kernel
theorem dX12_heapMany_9 : decode cX12_heapMany 9 = .ok (.iconst 1, 1) := by decide +kernel
theorem dX12_heapMany_10 : decode cX12_heapMany 10 = .ok (.iaload, 1) := by decide +kernel
theorem dX12_heapMany_11 : decode cX12_heapMany 11 = .ok (.if_icmp .ge 18, 3) := by decide +kernel
theorem dX12_heapMany_14 : decode cX12_heapMany 14 = .ok (.iload_n 2, 1) := by decide +kernel
theorem dX12_heapMany_15 : decode cX12_heapMany 15 = .ok (.aload_n 0, 1) := by decide +kernel
theorem dX12_heapMany_16 : decode cX12_heapMany 16 = .ok (.iload_n 1, 1) := by decide +kernel
theorem dX12_heapMany_17 : decode cX12_heapMany 17 = .ok (.iload_n 3, 1) := by decide +kernel
theorem dX12_heapMany_18 : decode cX12_heapMany 18 = .ok (.invokevirtual 313, 3) := by decide +kernel
theorem dX12_heapMany_21 : decode cX12_heapMany 21 = .ok (.iadd, 1) := by decide +kernel
theorem dX12_heapMany_22 : decode cX12_heapMany 22 = .ok (.istore_n 2, 1) := by decide +kernel
theorem dX12_heapMany_23 : decode cX12_heapMany 23 = .ok (.iinc 3 1, 3) := by decide +kernel
theorem dX12_heapMany_26 : decode cX12_heapMany 26 = .ok (.goto (-22), 3) := by decide +kernel
theorem dX12_heapMany_29 : decode cX12_heapMany 29 = .ok (.iload_n 2, 1) := by decide +kernel
theorem dX12_heapMany_30 : decode cX12_heapMany 30 = .ok (.ireturn, 1) := by decide +kernel
theorem mv_X12_heapOf : MV RX12 yX12_heapOf cX12_heapOf 3 (some .int) 2 := ⟨mw_7_104, mp_6_6, mw_1_13, mw_7_105, ⟨rfl, by decide, by decide, by decide +kernel⟩⟩
set_option maxHeartbeats 4000000 in
set_option maxRecDepth 100000 in
theorem cy_X12_heapMany (l : Launch) (D : va_G) (cA : Nat → ClassId) (L : List Nat) (T : Nat → Nat) (r : Rg) (hG : GR L T r) (hL : L.Nodup) (σ : Sg) (ρ : Lg) (hW : WT L ry T σ) (sz : Nat) (h0 : Nat) (mh0 : h0 ∈ L) (th0 : T h0 = 12) (p1 : Int32) (w0 : 0 ≤ p1.toInt) (w1 : p1.toInt ≤ 7) : Met l yX12_heapMany (.code yX12_heapMany cX12_heapMany 4 (some .int) :: wsA) ({ frames := 1, cells := 0, slots := 0, locals := 22 }) (PR D cA L T r σ ρ sz [.ref h0, .int p1]) (QI D cA L T r ry ([] : List (Nat × Nat)) σ sz (fun x σ1 => True)) 0 0 (dm L sz) := by
  refine Met.ofW (cc := cX12_heapMany) (maxL := 4) (ret := (some .int)) (by decide) rfl ?_
  intro p e s m args below meth c s₁ B hml hv
  obtain ⟨rfl, hsz, hP, hK, hN⟩ := hv
  have hx := B.exec
  have hb := B.bytes
  have hr := B.returns
  have hts : ∀ w ∈ wsA, w.before _ s = true := fun w h => atoms_spec (ws := .code yX12_heapMany cX12_heapMany 4 (some .int) :: wsA) B.pre w (List.mem_cons_of_mem _ h)
  have hown : s.vm.findClass RX12 = some m.cls := findClass_of_methodNamed B.named
  subst hsz
  have hLA : LA (dm L s.heap.size) L := ⟨hL, fun a h => Or.inl h⟩
  have hA : ∀ q : Nat, s.heap.size ≤ q → dm L s.heap.size q := fun q h => Or.inr h
  have hS : va_S (dm L s.heap.size) s.heap s.heap [] := va_S.rf
  have hB : TS D cA L T r ry ([] : List (Nat × Nat)) σ σ ρ s.heap := ⟨hP, hW, FR.rf⟩
  have hl := lv_entry ([.ref h0, .int p1]) (n := 4) (Nat.le_of_ble_eq_true rfl)
  rw [lg_entry_eq]
  generalize (lg_sl ([.ref h0, .int p1]) ++ List.replicate (4 - (lg_sl ([.ref h0, .int p1])).length) Slot.unset).toArray = ls at hl ⊢
  have hl : lv_has ls 4 [(0, .ref h0), (1, .int p1)] := hl
  refine lv_iconst (v := 0) hx hb dX12_heapMany_0 (by decide) ?_
  refine lv_istore_n (lv' := [(2, .int 0), (0, .ref h0), (1, .int p1)]) hx hb dX12_heapMany_1 rfl hl (by decide) rfl (fun ls hl => ?_)
  refine lv_iconst (v := 0) hx hb dX12_heapMany_2 (by decide) ?_
  refine lv_istore_n (lv' := [(3, .int 0), (2, .int 0), (0, .ref h0), (1, .int p1)]) hx hb dX12_heapMany_3 rfl hl (by decide) rfl (fun ls hl => ?_)
  refine w_loop (α := Int32 × Int32 × Sg × Lg) (fun (i_1, i_2, σ_3, ρ_4) H locs ls => 0 ≤ i_2.toInt ∧ i_2.toInt ≤ 5 ∧ TS D cA L T r ry ([] : List (Nat × Nat)) σ σ_3 ρ_4 H ∧ va_S (dm L s.heap.size) s.heap H locs ∧ lv_has ls 4 [(3, .int i_2), (2, .int i_1), (0, .ref h0), (1, .int p1)]) (fun (i_1, i_2, σ_3, ρ_4) => (5 - i_2.toInt).toNat) ?_ ⟨0, 0, σ, ρ⟩ ⟨(by decide), (by decide), hB, hS, lv_sub hl [0, 1, 2, 3] rfl⟩
  rintro ⟨i_1, i_2, σ_3, ρ_4⟩ H locs ls ⟨li_2, ui_2, hB, hS, hl⟩ ih_5
  refine lv_iload_n hx hb dX12_heapMany_4 rfl (lv_at hl 0 rfl) ?_
  refine lv_aload_n hx hb dX12_heapMany_5 rfl (lv_at hl 2 rfl) ?_
  refine t_gr hx hb hts hown hK hG hB mh0 th0 fq_12_20 rfl mw_5_236 dX12_heapMany_6 (fun b_6 hb_6 mb_6 tb_6 => ?_)
  refine lv_iconst (v := 1) hx hb dX12_heapMany_9 (by decide) ?_
  refine t_aj hx hb hK hB mb_6 tb_6 ai_70 (i_in (by decide) (by decide)) dX12_heapMany_10 (fun x_7 ex_7 lx_7 ux_7 => ?_)
  have lx_7 : 0 ≤ x_7.toInt := lx_7
  have ux_7 : x_7.toInt ≤ 5 := ux_7
  have cx_7 := congrArg Int32.toInt ex_7
  refine lv_icmp_ge (tgt := 29) hx hb dX12_heapMany_11 (by decide) (fun c_8 => ?_) (fun c_8 => ?_)
  · skip
    have uc_8 := j_le c_8
    refine lv_iload_n hx hb dX12_heapMany_29 rfl (lv_at hl 1 rfl) ?_
    exact W.iret (v := i_1) hx hb hr (fun t ht hW => ⟨⟨i_1, (σ_3, ρ_4), rfl, ⟨hB.2.1, hB.2.2, trivial⟩, (show TP D cA L T r σ_3 ρ_4 t.heap from by rw [ht]; exact hB.1)⟩, hS.F ht⟩) hS.2.2 dX12_heapMany_30
  · skip
    have uc_8 := j_nle c_8
    refine lv_iload_n hx hb dX12_heapMany_14 rfl (lv_at hl 1 rfl) ?_
    refine lv_aload_n hx hb dX12_heapMany_15 rfl (lv_at hl 2 rfl) ?_
    refine lv_iload_n hx hb dX12_heapMany_16 rfl (lv_at hl 3 rfl) ?_
    refine lv_iload_n hx hb dX12_heapMany_17 rfl (lv_at hl 0 rfl) ?_
    refine t_ci (va_runV (As := [.int p1, .int i_2]) (rest := [.int i_1]) ⟨hx, hb, hml, hown, hts⟩ (cy_X12_heapOf l D cA L T r hG hLA.1 σ_3 ρ_4 hB.2.1 _ h0 mh0 th0 p1 i_2 (by first | omega | decide) (by first | omega | decide) (by first | omega | decide) (by first | omega | decide)) (cV hts mv_X12_heapOf mw_7_102 rfl rfl ⟨Nat.le_of_ble_eq_true rfl, Nat.le_of_ble_eq_true rfl⟩) (pV hB.1 hK hN mh0 th0 (show shp cA 12 _ _ _ = .inr (12, Fs12 _ _ _) from rfl) rfl) rfl rfl hl.1 rfl (lv_room (Nat.le_of_ble_eq_true rfl)) dX12_heapMany_18 ⟨Nat.le_of_ble_eq_true rfl, Nat.le_of_ble_eq_true rfl⟩) hLA hA hB hS (by decide) (fun x_11 σ_9 ρ_10 H locs hB fσ_9 pσ_9 hS => ?_)
    have qσ_9 := FR.nil fσ_9
    subst qσ_9
    obtain ⟨lx_11, ux_11⟩ := pσ_9
    refine lv_iadd hx hb dX12_heapMany_21 ?_
    refine lv_topi (fun x_12 ex_12 => ?_)
    try have vx_12 := b_add (rfl : i_1.toInt = _) (rfl : x_11.toInt = _) ex_12 (by omega) (by omega)
    refine lv_istore_n (lv' := [(2, .int x_12), (3, .int i_2), (0, .ref h0), (1, .int p1)]) hx hb dX12_heapMany_22 rfl hl (by decide) rfl (fun ls hl => ?_)
    obtain ⟨x_13, ex_13⟩ : ∃ y : Int32, y = i_2 + 1 := ⟨_, rfl⟩
    have vx_13 := b_add (rfl : i_2.toInt = _) (by decide : (1 : Int32).toInt = 1) ex_13 (by omega) (by omega)
    refine lv_iinc (v := x_13) (lv' := [(3, .int x_13), (2, .int x_12), (0, .ref h0), (1, .int p1)]) hx hb dX12_heapMany_23 hl (k := 1) rfl (by rw [ex_13]; rfl) (by decide) rfl (fun ls hl => ?_)
    refine lv_goto (tgt := 4) hx hb dX12_heapMany_26 (by decide) ?_
    exact ih_5 ⟨x_12, x_13, σ_3, ρ_10⟩ _ _ _ ⟨(by omega), (by omega), hB, hS, lv_sub hl [0, 1, 2, 3] rfl⟩ (by show (5 - x_13.toInt).toNat < (5 - i_2.toInt).toNat; omega)
theorem mw_5_237 : (.fieldLink RX12 42 "HillBendsModel" "force" "I" : Cond) ∈ wsA := wsA_t (List.mem_append_right _ (List.mem_append_right _ (List.mem_append_right _ (List.mem_append_right _ (List.mem_append_left _ (List.mem_of_getElem? (l := tables_1_5) (i := 237) rfl)))))) rfl
theorem mw_7_58 : (.instanceMethod yX12_isRule : Cond) ∈ wsA := wsA_t (List.mem_append_right _ (List.mem_append_right _ (List.mem_append_right _ (List.mem_append_right _ (List.mem_append_right _ (List.mem_append_right _ (List.mem_append_left _ (List.mem_of_getElem? (l := tables_1_7) (i := 58) rfl)))))))) rfl
theorem mp_5_13 : (.selects RX12 yX12_isRule yX12_isRule : Cond) ∈ wsA := wsA_p (q := (yX12_isRule, 44)) (List.mem_append_right _ (List.mem_append_right _ (List.mem_append_right _ (List.mem_append_right _ (List.mem_append_left _ (List.mem_of_getElem? (l := lw_privs_5) (i := 13) rfl))))))
theorem mw_7_59 : (.code yX12_isRule cX12_isRule 2 (some .boolean) : Cond) ∈ wsA := wsA_t (List.mem_append_right _ (List.mem_append_right _ (List.mem_append_right _ (List.mem_append_right _ (List.mem_append_right _ (List.mem_append_right _ (List.mem_append_left _ (List.mem_of_getElem? (l := tables_1_7) (i := 59) rfl)))))))) rfl
theorem mw_7_56 : (.methodLink RX12 316 yX12_isRule : Cond) ∈ wsA := wsA_t (List.mem_append_right _ (List.mem_append_right _ (List.mem_append_right _ (List.mem_append_right _ (List.mem_append_right _ (List.mem_append_right _ (List.mem_append_left _ (List.mem_of_getElem? (l := tables_1_7) (i := 56) rfl)))))))) rfl
theorem dX12_force_0 : decode cX12_force 0 = .ok (.iload_n 1, 1) := by decide +kernel
theorem dX12_force_1 : decode cX12_force 1 = .ok (.iconst (-1), 1) := by decide +kernel
theorem dX12_force_2 : decode cX12_force 2 = .ok (.if_icmp .eq 14, 3) := by decide +kernel
theorem dX12_force_16 : decode cX12_force 16 = .ok (.aload_n 0, 1) := by decide +kernel
theorem dX12_force_17 : decode cX12_force 17 = .ok (.getfield 42, 3) := by decide +kernel
theorem dX12_force_20 : decode cX12_force 20 = .ok (.istore_n 2, 1) := by decide +kernel
theorem dX12_force_21 : decode cX12_force 21 = .ok (.aload_n 0, 1) := by decide +kernel
theorem dX12_force_22 : decode cX12_force 22 = .ok (.iload_n 1, 1) := by decide +kernel
theorem dX12_force_23 : decode cX12_force 23 = .ok (.putfield 42, 3) := by decide +kernel
theorem dX12_force_26 : decode cX12_force 26 = .ok (.iload_n 2, 1) := by decide +kernel
theorem dX12_force_27 : decode cX12_force 27 = .ok (.ireturn, 1) := by decide +kernel
theorem dX12_force_5 : decode cX12_force 5 = .ok (.aload_n 0, 1) := by decide +kernel
theorem dX12_force_6 : decode cX12_force 6 = .ok (.iload_n 1, 1) := by decide +kernel
theorem dX12_force_7 : decode cX12_force 7 = .ok (.invokevirtual 316, 3) := by decide +kernel
theorem dX12_force_10 : decode cX12_force 10 = .ok (.ifCond .ne 6, 3) := by decide +kernel
theorem dX12_force_13 : decode cX12_force 13 = .ok (.bipush (-2), 2) := by decide +kernel
theorem dX12_force_15 : decode cX12_force 15 = .ok (.ireturn, 1) := by decide +kernel
theorem mv_X12_isRule : MV RX12 yX12_isRule cX12_isRule 2 (some .boolean) 1 := ⟨mw_7_58, mp_5_13, mw_1_13, mw_7_59, ⟨rfl, by decide, by decide, by decide +kernel⟩⟩
set_option maxHeartbeats 4000000 in
set_option maxRecDepth 100000 in
theorem cy_X12_force (l : Launch) (D : va_G) (cA : Nat → ClassId) (L : List Nat) (T : Nat → Nat) (r : Rg) (hG : GR L T r) (hL : L.Nodup) (σ : Sg) (ρ : Lg) (hW : WT L ry T σ) (sz : Nat) (h0 : Nat) (mh0 : h0 ∈ L) (th0 : T h0 = 12) (p1 : Int32) : Met l yX12_force (.code yX12_force cX12_force 3 (some .int) :: wsA) ({ frames := 1, cells := 0, slots := 0, locals := 21 }) (PR D cA L T r σ ρ sz [.ref h0, .int p1]) (QI D cA L T r ry [(12, 21)] σ sz (fun x σ1 => True)) 0 0 (dm L sz) := by
  refine Met.ofW (cc := cX12_force) (maxL := 3) (ret := (some .int)) (by decide) rfl ?_
  intro p e s m args below meth c s₁ B hml hv
  obtain ⟨rfl, hsz, hP, hK, hN⟩ := hv
  have hx := B.exec
  have hb := B.bytes
  have hr := B.returns
  have hts : ∀ w ∈ wsA, w.before _ s = true := fun w h => atoms_spec (ws := .code yX12_force cX12_force 3 (some .int) :: wsA) B.pre w (List.mem_cons_of_mem _ h)
  have hown : s.vm.findClass RX12 = some m.cls := findClass_of_methodNamed B.named
  subst hsz
  have hLA : LA (dm L s.heap.size) L := ⟨hL, fun a h => Or.inl h⟩
  have hA : ∀ q : Nat, s.heap.size ≤ q → dm L s.heap.size q := fun q h => Or.inr h
  have hS : va_S (dm L s.heap.size) s.heap s.heap [] := va_S.rf
  have hB : TS D cA L T r ry [(12, 21)] σ σ ρ s.heap := ⟨hP, hW, FR.rf⟩
  have hl := lv_entry ([.ref h0, .int p1]) (n := 3) (Nat.le_of_ble_eq_true rfl)
  rw [lg_entry_eq]
  generalize (lg_sl ([.ref h0, .int p1]) ++ List.replicate (3 - (lg_sl ([.ref h0, .int p1])).length) Slot.unset).toArray = ls at hl ⊢
  have hl : lv_has ls 3 [(0, .ref h0), (1, .int p1)] := hl
  refine lv_iload_n hx hb dX12_force_0 rfl (lv_at hl 1 rfl) ?_
  refine lv_iconst (v := (-1)) hx hb dX12_force_1 (by decide) ?_
  refine lv_icmp_eq (tgt := 16) hx hb dX12_force_2 (by decide) (fun c_1 => ?_) (fun c_1 => ?_)
  · skip
    have uc_1 := i_eq (n := (-1)) (by decide) c_1
    refine lv_aload_n hx hb dX12_force_16 rfl (lv_at hl 0 rfl) ?_
    refine t_gi hx hb hts hown hK hB mh0 th0 fi_12_21 rfl mw_5_237 dX12_force_17 (fun x_2 ex_2 lx_2 ux_2 => ?_)
    have cx_2 := congrArg Int32.toInt ex_2
    refine lv_istore_n (lv' := [(2, .int x_2), (0, .ref h0), (1, .int p1)]) hx hb dX12_force_20 rfl hl (by decide) rfl (fun ls hl => ?_)
    refine lv_aload_n hx hb dX12_force_21 rfl (lv_at hl 1 rfl) ?_
    refine lv_iload_n hx hb dX12_force_22 rfl (lv_at hl 2 rfl) ?_
    refine t_pi hx hb hts hown hK hLA hB hS mh0 th0 fi_12_21 rfl rfl rfl (by first | omega | (subst_vars; omega)) (by first | omega | (subst_vars; omega)) (Or.inl (by decide)) mw_5_237 dX12_force_23 (fun H locs σ_3 eσ_3 hB hS => ?_)
    have k_4 : σ_3 h0 21 = p1 := by rw [eσ_3]; exact up2_same _ _ _ _
    refine lv_iload_n hx hb dX12_force_26 rfl (lv_at hl 0 rfl) ?_
    exact W.iret (v := x_2) hx hb hr (fun t ht hW => ⟨⟨x_2, (σ_3, ρ), rfl, ⟨hB.2.1, hB.2.2, trivial⟩, (show TP D cA L T r σ_3 ρ t.heap from by rw [ht]; exact hB.1)⟩, hS.F ht⟩) hS.2.2 dX12_force_27
  · skip
    have uc_1 := i_ne (n := (-1)) (by decide) c_1
    refine lv_aload_n hx hb dX12_force_5 rfl (lv_at hl 0 rfl) ?_
    refine lv_iload_n hx hb dX12_force_6 rfl (lv_at hl 1 rfl) ?_
    refine t_ci (va_runV (As := [.int p1]) (rest := []) ⟨hx, hb, hml, hown, hts⟩ (cy_X12_isRule l D cA L T r hG hLA.1 σ ρ hB.2.1 _ h0 mh0 th0 p1) (cV hts mv_X12_isRule mw_7_56 rfl rfl ⟨Nat.le_of_ble_eq_true rfl, Nat.le_of_ble_eq_true rfl⟩) (pV hB.1 hK hN mh0 th0 (show shp cA 12 _ _ _ = .inr (12, Fs12 _ _ _) from rfl) rfl) rfl rfl hl.1 rfl (lv_room (Nat.le_of_ble_eq_true rfl)) dX12_force_7 ⟨Nat.le_of_ble_eq_true rfl, Nat.le_of_ble_eq_true rfl⟩) hLA hA hB hS (by decide) (fun x_7 σ_5 ρ_6 H locs hB fσ_5 pσ_5 hS => ?_)
    have qσ_5 := FR.nil fσ_5
    subst qσ_5
    obtain ⟨ox_7, ix_7⟩ := pσ_5
    refine lv_if_ne (tgt := 16) hx hb dX12_force_10 (by decide) (fun c_8 => ?_) (fun c_8 => ?_)
    · skip
      have uc_8 := i_ne (n := 0) (by decide) c_8
      refine lv_aload_n hx hb dX12_force_16 rfl (lv_at hl 0 rfl) ?_
      refine t_gi hx hb hts hown hK hB mh0 th0 fi_12_21 rfl mw_5_237 dX12_force_17 (fun x_9 ex_9 lx_9 ux_9 => ?_)
      have cx_9 := congrArg Int32.toInt ex_9
      refine lv_istore_n (lv' := [(2, .int x_9), (0, .ref h0), (1, .int p1)]) hx hb dX12_force_20 rfl hl (by decide) rfl (fun ls hl => ?_)
      refine lv_aload_n hx hb dX12_force_21 rfl (lv_at hl 1 rfl) ?_
      refine lv_iload_n hx hb dX12_force_22 rfl (lv_at hl 2 rfl) ?_
      refine t_pi hx hb hts hown hK hLA hB hS mh0 th0 fi_12_21 rfl rfl rfl (by first | omega | (subst_vars; omega)) (by first | omega | (subst_vars; omega)) (Or.inl (by decide)) mw_5_237 dX12_force_23 (fun H locs σ_10 eσ_10 hB hS => ?_)
      have k_11 : σ_10 h0 21 = p1 := by rw [eσ_10]; exact up2_same _ _ _ _
      refine lv_iload_n hx hb dX12_force_26 rfl (lv_at hl 0 rfl) ?_
      exact W.iret (v := x_9) hx hb hr (fun t ht hW => ⟨⟨x_9, (σ_10, ρ_6), rfl, ⟨hB.2.1, hB.2.2, trivial⟩, (show TP D cA L T r σ_10 ρ_6 t.heap from by rw [ht]; exact hB.1)⟩, hS.F ht⟩) hS.2.2 dX12_force_27
    · skip
      have uc_8 := i_eq (n := 0) (by decide) c_8
      refine lv_bipush (v := (-2)) hx hb dX12_force_13 (by decide) ?_
      exact W.iret (v := (-2)) hx hb hr (fun t ht hW => ⟨⟨(-2), (σ, ρ_6), rfl, ⟨hB.2.1, hB.2.2, trivial⟩, (show TP D cA L T r σ ρ_6 t.heap from by rw [ht]; exact hB.1)⟩, hS.F ht⟩) hS.2.2 dX12_force_15
theorem mw_7_66 : (.instanceMethod yX12_isPilgrim : Cond) ∈ wsA := wsA_t (List.mem_append_right _ (List.mem_append_right _ (List.mem_append_right _ (List.mem_append_right _ (List.mem_append_right _ (List.mem_append_right _ (List.mem_append_left _ (List.mem_of_getElem? (l := tables_1_7) (i := 66) rfl)))))))) rfl
theorem mp_5_14 : (.selects RX12 yX12_isPilgrim yX12_isPilgrim : Cond) ∈ wsA := wsA_p (q := (yX12_isPilgrim, 44)) (List.mem_append_right _ (List.mem_append_right _ (List.mem_append_right _ (List.mem_append_right _ (List.mem_append_left _ (List.mem_of_getElem? (l := lw_privs_5) (i := 14) rfl))))))
theorem mw_7_67 : (.code yX12_isPilgrim cX12_isPilgrim 2 (some .boolean) : Cond) ∈ wsA := wsA_t (List.mem_append_right _ (List.mem_append_right _ (List.mem_append_right _ (List.mem_append_right _ (List.mem_append_right _ (List.mem_append_right _ (List.mem_append_left _ (List.mem_of_getElem? (l := tables_1_7) (i := 67) rfl)))))))) rfl
theorem mw_7_64 : (.methodLink RX12 319 yX12_isPilgrim : Cond) ∈ wsA := wsA_t (List.mem_append_right _ (List.mem_append_right _ (List.mem_append_right _ (List.mem_append_right _ (List.mem_append_right _ (List.mem_append_right _ (List.mem_append_left _ (List.mem_of_getElem? (l := tables_1_7) (i := 64) rfl)))))))) rfl
theorem mw_7_68 : (.constantLong RX12 322 9 : Cond) ∈ wsA := wsA_t (List.mem_append_right _ (List.mem_append_right _ (List.mem_append_right _ (List.mem_append_right _ (List.mem_append_right _ (List.mem_append_right _ (List.mem_append_left _ (List.mem_of_getElem? (l := tables_1_7) (i := 68) rfl)))))))) rfl
theorem mw_6_186 : (.static yX12_in : Cond) ∈ wsA := wsA_t (List.mem_append_right _ (List.mem_append_right _ (List.mem_append_right _ (List.mem_append_right _ (List.mem_append_right _ (List.mem_append_left _ (List.mem_of_getElem? (l := tables_1_6) (i := 186) rfl))))))) rfl
theorem mw_6_187 : (.code yX12_in cX12_in 6 (some .boolean) : Cond) ∈ wsA := wsA_t (List.mem_append_right _ (List.mem_append_right _ (List.mem_append_right _ (List.mem_append_right _ (List.mem_append_right _ (List.mem_append_left _ (List.mem_of_getElem? (l := tables_1_6) (i := 187) rfl))))))) rfl
theorem mw_6_185 : (.methodLink RX12 130 yX12_in : Cond) ∈ wsA := wsA_t (List.mem_append_right _ (List.mem_append_right _ (List.mem_append_right _ (List.mem_append_right _ (List.mem_append_right _ (List.mem_append_left _ (List.mem_of_getElem? (l := tables_1_6) (i := 185) rfl))))))) rfl
theorem mw_7_71 : (.instanceMethod yX12_pilgrimOf : Cond) ∈ wsA := wsA_t (List.mem_append_right _ (List.mem_append_right _ (List.mem_append_right _ (List.mem_append_right _ (List.mem_append_right _ (List.mem_append_right _ (List.mem_append_left _ (List.mem_of_getElem? (l := tables_1_7) (i := 71) rfl)))))))) rfl
theorem mp_5_15 : (.selects RX12 yX12_pilgrimOf yX12_pilgrimOf : Cond) ∈ wsA := wsA_p (q := (yX12_pilgrimOf, 44)) (List.mem_append_right _ (List.mem_append_right _ (List.mem_append_right _ (List.mem_append_right _ (List.mem_append_left _ (List.mem_of_getElem? (l := lw_privs_5) (i := 15) rfl))))))
theorem mw_7_72 : (.code yX12_pilgrimOf cX12_pilgrimOf 3 (some .int) : Cond) ∈ wsA := wsA_t (List.mem_append_right _ (List.mem_append_right _ (List.mem_append_right _ (List.mem_append_right _ (List.mem_append_right _ (List.mem_append_right _ (List.mem_append_left _ (List.mem_of_getElem? (l := tables_1_7) (i := 72) rfl)))))))) rfl
theorem mw_7_69 : (.methodLink RX12 324 yX12_pilgrimOf : Cond) ∈ wsA := wsA_t (List.mem_append_right _ (List.mem_append_right _ (List.mem_append_right _ (List.mem_append_right _ (List.mem_append_right _ (List.mem_append_right _ (List.mem_append_left _ (List.mem_of_getElem? (l := tables_1_7) (i := 69) rfl)))))))) rfl
theorem dX12_pilgrim_0 : decode cX12_pilgrim 0 = .ok (.aload_n 0, 1) := by decide +kernel
theorem dX12_pilgrim_1 : decode cX12_pilgrim 1 = .ok (.iload_n 1, 1) := by decide +kernel
theorem dX12_pilgrim_2 : decode cX12_pilgrim 2 = .ok (.invokevirtual 319, 3) := by decide +kernel
theorem dX12_pilgrim_5 : decode cX12_pilgrim 5 = .ok (.ifCond .eq 15, 3) := by decide +kernel
theorem dX12_pilgrim_20 : decode cX12_pilgrim 20 = .ok (.iconst (-1), 1) := by decide +kernel
theorem dX12_pilgrim_21 : decode cX12_pilgrim 21 = .ok (.ireturn, 1) := by decide +kernel
theorem dX12_pilgrim_8 : decode cX12_pilgrim 8 = .ok (.iload_n 2, 1) := by decide +kernel
theorem dX12_pilgrim_9 : decode cX12_pilgrim 9 = .ok (.i2l, 1) := by decide +kernel
theorem dX12_pilgrim_10 : decode cX12_pilgrim 10 = .ok (.lconst 0, 1) := by decide +kernel
theorem dX12_pilgrim_11 : decode cX12_pilgrim 11 = .ok (.ldc2_w 322, 3) := by decide +kernel
theorem dX12_pilgrim_14 : decode cX12_pilgrim 14 = .ok (.invokestatic 130, 3) := by decide +kernel
theorem dX12_pilgrim_17 : decode cX12_pilgrim 17 = .ok (.ifCond .ne 5, 3) := by decide +kernel
theorem dX12_pilgrim_22 : decode cX12_pilgrim 22 = .ok (.iload_n 2, 1) := by decide +kernel
theorem dX12_pilgrim_23 : decode cX12_pilgrim 23 = .ok (.iconst 4, 1) := by decide +kernel
theorem dX12_pilgrim_24 : decode cX12_pilgrim 24 = .ok (.if_icmp .ge 12, 3) := by decide +kernel
theorem dX12_pilgrim_36 : decode cX12_pilgrim 36 = .ok (.iload_n 2, 1) := by decide +kernel
theorem dX12_pilgrim_37 : decode cX12_pilgrim 37 = .ok (.iconst 4, 1) := by decide +kernel
theorem dX12_pilgrim_38 : decode cX12_pilgrim 38 = .ok (.if_icmp .ne 11, 3) := by decide +kernel
theorem dX12_pilgrim_49 : decode cX12_pilgrim 49 = .ok (.aload_n 0, 1) := by decide +kernel
theorem dX12_pilgrim_50 : decode cX12_pilgrim 50 = .ok (.iload_n 1, 1) := by decide +kernel
theorem dX12_pilgrim_51 : decode cX12_pilgrim 51 = .ok (.iload_n 2, 1) := by decide +kernel
theorem dX12_pilgrim_52 : decode cX12_pilgrim 52 = .ok (.iconst 5, 1) := by decide +kernel
theorem dX12_pilgrim_53 : decode cX12_pilgrim 53 = .ok (.isub, 1) := by decide +kernel
theorem dX12_pilgrim_54 : decode cX12_pilgrim 54 = .ok (.invokevirtual 304, 3) := by decide +kernel
theorem dX12_pilgrim_57 : decode cX12_pilgrim 57 = .ok (.ireturn, 1) := by decide +kernel
theorem dX12_pilgrim_41 : decode cX12_pilgrim 41 = .ok (.aload_n 0, 1) := by decide +kernel
theorem dX12_pilgrim_42 : decode cX12_pilgrim 42 = .ok (.iload_n 1, 1) := by decide +kernel
theorem dX12_pilgrim_43 : decode cX12_pilgrim 43 = .ok (.invokevirtual 310, 3) := by decide +kernel
theorem dX12_pilgrim_46 : decode cX12_pilgrim 46 = .ok (.goto 11, 3) := by decide +kernel
theorem dX12_pilgrim_27 : decode cX12_pilgrim 27 = .ok (.aload_n 0, 1) := by decide +kernel
theorem dX12_pilgrim_28 : decode cX12_pilgrim 28 = .ok (.iload_n 1, 1) := by decide +kernel
theorem dX12_pilgrim_29 : decode cX12_pilgrim 29 = .ok (.iload_n 2, 1) := by decide +kernel
theorem dX12_pilgrim_30 : decode cX12_pilgrim 30 = .ok (.invokevirtual 324, 3) := by decide +kernel
theorem dX12_pilgrim_33 : decode cX12_pilgrim 33 = .ok (.goto 24, 3) := by decide +kernel
theorem mv_X12_isPilgrim : MV RX12 yX12_isPilgrim cX12_isPilgrim 2 (some .boolean) 1 := ⟨mw_7_66, mp_5_14, mw_1_13, mw_7_67, ⟨rfl, by decide, by decide, by decide +kernel⟩⟩
theorem ms_X12_in : MS RX12 yX12_in cX12_in 6 (some .boolean) 3 := ⟨mw_6_186, mw_1_13, mw_6_187, ⟨rfl, by decide, by decide, by decide +kernel⟩⟩
theorem mv_X12_pilgrimOf : MV RX12 yX12_pilgrimOf cX12_pilgrimOf 3 (some .int) 2 := ⟨mw_7_71, mp_5_15, mw_1_13, mw_7_72, ⟨rfl, by decide, by decide, by decide +kernel⟩⟩
set_option maxHeartbeats 4000000 in
set_option maxRecDepth 100000 in
theorem cy_X12_pilgrim (l : Launch) (D : va_G) (cA : Nat → ClassId) (L : List Nat) (T : Nat → Nat) (r : Rg) (hG : GR L T r) (hL : L.Nodup) (σ : Sg) (ρ : Lg) (hW : WT L ry T σ) (sz : Nat) (h0 : Nat) (mh0 : h0 ∈ L) (th0 : T h0 = 12) (p1 : Int32) (p2 : Int32) : Met l yX12_pilgrim (.code yX12_pilgrim cX12_pilgrim 3 (some .int) :: wsA) ({ frames := 2, cells := 0, slots := 0, locals := 45 }) (PR D cA L T r σ ρ sz [.ref h0, .int p1, .int p2]) (QI D cA L T r ry ([] : List (Nat × Nat)) σ sz (fun x σ1 => True)) 0 0 (dm L sz) := by
  refine Met.ofW (cc := cX12_pilgrim) (maxL := 3) (ret := (some .int)) (by decide) rfl ?_
  intro p e s m args below meth c s₁ B hml hv
  obtain ⟨rfl, hsz, hP, hK, hN⟩ := hv
  have hx := B.exec
  have hb := B.bytes
  have hr := B.returns
  have hts : ∀ w ∈ wsA, w.before _ s = true := fun w h => atoms_spec (ws := .code yX12_pilgrim cX12_pilgrim 3 (some .int) :: wsA) B.pre w (List.mem_cons_of_mem _ h)
  have hown : s.vm.findClass RX12 = some m.cls := findClass_of_methodNamed B.named
  subst hsz
  have hLA : LA (dm L s.heap.size) L := ⟨hL, fun a h => Or.inl h⟩
  have hA : ∀ q : Nat, s.heap.size ≤ q → dm L s.heap.size q := fun q h => Or.inr h
  have hS : va_S (dm L s.heap.size) s.heap s.heap [] := va_S.rf
  have hB : TS D cA L T r ry ([] : List (Nat × Nat)) σ σ ρ s.heap := ⟨hP, hW, FR.rf⟩
  have hl := lv_entry ([.ref h0, .int p1, .int p2]) (n := 3) (Nat.le_of_ble_eq_true rfl)
  rw [lg_entry_eq]
  generalize (lg_sl ([.ref h0, .int p1, .int p2]) ++ List.replicate (3 - (lg_sl ([.ref h0, .int p1, .int p2])).length) Slot.unset).toArray = ls at hl ⊢
  have hl : lv_has ls 3 [(0, .ref h0), (1, .int p1), (2, .int p2)] := hl
  refine lv_aload_n hx hb dX12_pilgrim_0 rfl (lv_at hl 0 rfl) ?_
  refine lv_iload_n hx hb dX12_pilgrim_1 rfl (lv_at hl 1 rfl) ?_
  refine t_ci (va_runV (As := [.int p1]) (rest := []) ⟨hx, hb, hml, hown, hts⟩ (cy_X12_isPilgrim l D cA L T r hG hLA.1 σ ρ hB.2.1 _ h0 mh0 th0 p1) (cV hts mv_X12_isPilgrim mw_7_64 rfl rfl ⟨Nat.le_of_ble_eq_true rfl, Nat.le_of_ble_eq_true rfl⟩) (pV hB.1 hK hN mh0 th0 (show shp cA 12 _ _ _ = .inr (12, Fs12 _ _ _) from rfl) rfl) rfl rfl hl.1 rfl (lv_room (Nat.le_of_ble_eq_true rfl)) dX12_pilgrim_2 ⟨Nat.le_of_ble_eq_true rfl, Nat.le_of_ble_eq_true rfl⟩) hLA hA hB hS (by decide) (fun x_3 σ_1 ρ_2 H locs hB fσ_1 pσ_1 hS => ?_)
  have qσ_1 := FR.nil fσ_1
  subst qσ_1
  obtain ⟨ox_3, ix_3⟩ := pσ_1
  refine lv_if_eq (tgt := 20) hx hb dX12_pilgrim_5 (by decide) (fun c_4 => ?_) (fun c_4 => ?_)
  · skip
    have uc_4 := i_eq (n := 0) (by decide) c_4
    refine lv_iconst (v := (-1)) hx hb dX12_pilgrim_20 (by decide) ?_
    exact W.iret (v := (-1)) hx hb hr (fun t ht hW => ⟨⟨(-1), (σ, ρ_2), rfl, ⟨hB.2.1, hB.2.2, trivial⟩, (show TP D cA L T r σ ρ_2 t.heap from by rw [ht]; exact hB.1)⟩, hS.F ht⟩) hS.2.2 dX12_pilgrim_21
  · skip
    have uc_4 := i_ne (n := 0) (by decide) c_4
    refine lv_iload_n hx hb dX12_pilgrim_8 rfl (lv_at hl 2 rfl) ?_
    refine lv_i2l (v := p2.toInt64) hx hb dX12_pilgrim_9 rfl ?_
    refine lv_lconst (v := 0) hx hb dX12_pilgrim_10 (by decide) ?_
    refine lv_ldc2 (v := 9) hx hb hown (hts _ mw_7_68) dX12_pilgrim_11 ?_
    refine t_ci (va_runS (As := [.long p2.toInt64, .long 0, .long 9]) (rest := []) ⟨hx, hb, hml, hown, hts⟩ (cy_X12_in_0_9 l D cA L T r hG hLA.1 σ ρ_2 hB.2.1 _ p2) (cS hts ms_X12_in mw_6_185 rfl rfl ⟨Nat.le_of_ble_eq_true rfl, Nat.le_of_ble_eq_true rfl⟩) (pS hB.1 hK hN) rfl rfl hl.1 rfl (lv_room (Nat.le_of_ble_eq_true rfl)) dX12_pilgrim_14 ⟨Nat.le_of_ble_eq_true rfl, Nat.le_of_ble_eq_true rfl⟩) hLA hA hB hS (by decide) (fun x_7 σ_5 ρ_6 H locs hB fσ_5 pσ_5 hS => ?_)
    have qσ_5 := FR.nil fσ_5
    subst qσ_5
    obtain ⟨ox_7, ix_7⟩ := pσ_5
    refine lv_if_ne (tgt := 22) hx hb dX12_pilgrim_17 (by decide) (fun c_8 => ?_) (fun c_8 => ?_)
    · skip
      have uc_8 := i_ne (n := 0) (by decide) c_8
      refine lv_iload_n hx hb dX12_pilgrim_22 rfl (lv_at hl 2 rfl) ?_
      refine lv_iconst (v := 4) hx hb dX12_pilgrim_23 (by decide) ?_
      refine lv_icmp_ge (tgt := 36) hx hb dX12_pilgrim_24 (by decide) (fun c_9 => ?_) (fun c_9 => ?_)
      · skip
        have uc_9 := i_ge (n := 4) (by decide) c_9
        refine lv_iload_n hx hb dX12_pilgrim_36 rfl (lv_at hl 2 rfl) ?_
        refine lv_iconst (v := 4) hx hb dX12_pilgrim_37 (by decide) ?_
        refine lv_icmp_ne (tgt := 49) hx hb dX12_pilgrim_38 (by decide) (fun c_10 => ?_) (fun c_10 => ?_)
        · skip
          have uc_10 := i_ne (n := 4) (by decide) c_10
          refine lv_aload_n hx hb dX12_pilgrim_49 rfl (lv_at hl 0 rfl) ?_
          refine lv_iload_n hx hb dX12_pilgrim_50 rfl (lv_at hl 1 rfl) ?_
          refine lv_iload_n hx hb dX12_pilgrim_51 rfl (lv_at hl 2 rfl) ?_
          refine lv_iconst (v := 5) hx hb dX12_pilgrim_52 (by decide) ?_
          refine lv_isub hx hb dX12_pilgrim_53 ?_
          refine lv_topi (fun x_11 ex_11 => ?_)
          have vx_11 := b_sub (rfl : p2.toInt = _) (by decide : (5 : Int32).toInt = 5) ex_11 (by omega) (by omega)
          refine t_ci (va_runV (As := [.int p1, .int x_11]) (rest := []) ⟨hx, hb, hml, hown, hts⟩ (cy_X12_hasOf l D cA L T r hG hLA.1 σ ρ_6 hB.2.1 _ h0 mh0 th0 p1 x_11 (by first | omega | decide) (by first | omega | decide) (by first | omega | decide) (by first | omega | decide)) (cV hts mv_X12_hasOf mw_7_77 rfl rfl ⟨Nat.le_of_ble_eq_true rfl, Nat.le_of_ble_eq_true rfl⟩) (pV hB.1 hK hN mh0 th0 (show shp cA 12 _ _ _ = .inr (12, Fs12 _ _ _) from rfl) rfl) rfl rfl hl.1 rfl (lv_room (Nat.le_of_ble_eq_true rfl)) dX12_pilgrim_54 ⟨Nat.le_of_ble_eq_true rfl, Nat.le_of_ble_eq_true rfl⟩) hLA hA hB hS (by decide) (fun x_14 σ_12 ρ_13 H locs hB fσ_12 pσ_12 hS => ?_)
          have qσ_12 := FR.nil fσ_12
          subst qσ_12
          exact W.iret (v := x_14) hx hb hr (fun t ht hW => ⟨⟨x_14, (σ, ρ_13), rfl, ⟨hB.2.1, hB.2.2, trivial⟩, (show TP D cA L T r σ ρ_13 t.heap from by rw [ht]; exact hB.1)⟩, hS.F ht⟩) hS.2.2 dX12_pilgrim_57
        · skip
          have uc_10 := i_eq (n := 4) (by decide) c_10
          refine lv_aload_n hx hb dX12_pilgrim_41 rfl (lv_at hl 0 rfl) ?_
          refine lv_iload_n hx hb dX12_pilgrim_42 rfl (lv_at hl 1 rfl) ?_
          refine t_ci (va_runV (As := [.int p1]) (rest := []) ⟨hx, hb, hml, hown, hts⟩ (cy_X12_carried l D cA L T r hG hLA.1 σ ρ_6 hB.2.1 _ h0 mh0 th0 p1 (by first | omega | decide) (by first | omega | decide)) (cV hts mv_X12_carried mw_7_73 rfl rfl ⟨Nat.le_of_ble_eq_true rfl, Nat.le_of_ble_eq_true rfl⟩) (pV hB.1 hK hN mh0 th0 (show shp cA 12 _ _ _ = .inr (12, Fs12 _ _ _) from rfl) rfl) rfl rfl hl.1 rfl (lv_room (Nat.le_of_ble_eq_true rfl)) dX12_pilgrim_43 ⟨Nat.le_of_ble_eq_true rfl, Nat.le_of_ble_eq_true rfl⟩) hLA hA hB hS (by decide) (fun x_17 σ_15 ρ_16 H locs hB fσ_15 pσ_15 hS => ?_)
          have qσ_15 := FR.nil fσ_15
          subst qσ_15
          refine lv_goto (tgt := 57) hx hb dX12_pilgrim_46 (by decide) ?_
          exact W.iret (v := x_17) hx hb hr (fun t ht hW => ⟨⟨x_17, (σ, ρ_16), rfl, ⟨hB.2.1, hB.2.2, trivial⟩, (show TP D cA L T r σ ρ_16 t.heap from by rw [ht]; exact hB.1)⟩, hS.F ht⟩) hS.2.2 dX12_pilgrim_57
      · skip
        have uc_9 := i_nge (n := 4) (by decide) c_9
        refine lv_aload_n hx hb dX12_pilgrim_27 rfl (lv_at hl 0 rfl) ?_
        refine lv_iload_n hx hb dX12_pilgrim_28 rfl (lv_at hl 1 rfl) ?_
        refine lv_iload_n hx hb dX12_pilgrim_29 rfl (lv_at hl 2 rfl) ?_
        refine t_ci (va_runV (As := [.int p1, .int p2]) (rest := []) ⟨hx, hb, hml, hown, hts⟩ (cy_X12_pilgrimOf l D cA L T r hG hLA.1 σ ρ_6 hB.2.1 _ h0 mh0 th0 p1 p2 (by first | omega | decide) (by first | omega | decide) (by first | omega | decide) (by first | omega | decide)) (cV hts mv_X12_pilgrimOf mw_7_69 rfl rfl ⟨Nat.le_of_ble_eq_true rfl, Nat.le_of_ble_eq_true rfl⟩) (pV hB.1 hK hN mh0 th0 (show shp cA 12 _ _ _ = .inr (12, Fs12 _ _ _) from rfl) rfl) rfl rfl hl.1 rfl (lv_room (Nat.le_of_ble_eq_true rfl)) dX12_pilgrim_30 ⟨Nat.le_of_ble_eq_true rfl, Nat.le_of_ble_eq_true rfl⟩) hLA hA hB hS (by decide) (fun x_20 σ_18 ρ_19 H locs hB fσ_18 pσ_18 hS => ?_)
        have qσ_18 := FR.nil fσ_18
        subst qσ_18
        refine lv_goto (tgt := 57) hx hb dX12_pilgrim_33 (by decide) ?_
        exact W.iret (v := x_20) hx hb hr (fun t ht hW => ⟨⟨x_20, (σ, ρ_19), rfl, ⟨hB.2.1, hB.2.2, trivial⟩, (show TP D cA L T r σ ρ_19 t.heap from by rw [ht]; exact hB.1)⟩, hS.F ht⟩) hS.2.2 dX12_pilgrim_57
    · skip
      have uc_8 := i_eq (n := 0) (by decide) c_8
      refine lv_iconst (v := (-1)) hx hb dX12_pilgrim_20 (by decide) ?_
      exact W.iret (v := (-1)) hx hb hr (fun t ht hW => ⟨⟨(-1), (σ, ρ_6), rfl, ⟨hB.2.1, hB.2.2, trivial⟩, (show TP D cA L T r σ ρ_6 t.heap from by rw [ht]; exact hB.1)⟩, hS.F ht⟩) hS.2.2 dX12_pilgrim_21
theorem mw_7_91 : (.instanceMethod yX12_isBend : Cond) ∈ wsA := wsA_t (List.mem_append_right _ (List.mem_append_right _ (List.mem_append_right _ (List.mem_append_right _ (List.mem_append_right _ (List.mem_append_right _ (List.mem_append_left _ (List.mem_of_getElem? (l := tables_1_7) (i := 91) rfl)))))))) rfl
theorem mp_6_3 : (.selects RX12 yX12_isBend yX12_isBend : Cond) ∈ wsA := wsA_p (q := (yX12_isBend, 44)) (List.mem_append_right _ (List.mem_append_right _ (List.mem_append_right _ (List.mem_append_right _ (List.mem_append_right _ (List.mem_append_left _ (List.mem_of_getElem? (l := lw_privs_6) (i := 3) rfl)))))))
theorem mw_7_92 : (.code yX12_isBend cX12_isBend 2 (some .boolean) : Cond) ∈ wsA := wsA_t (List.mem_append_right _ (List.mem_append_right _ (List.mem_append_right _ (List.mem_append_right _ (List.mem_append_right _ (List.mem_append_right _ (List.mem_append_left _ (List.mem_of_getElem? (l := tables_1_7) (i := 92) rfl)))))))) rfl
theorem mw_7_89 : (.methodLink RX12 327 yX12_isBend : Cond) ∈ wsA := wsA_t (List.mem_append_right _ (List.mem_append_right _ (List.mem_append_right _ (List.mem_append_right _ (List.mem_append_right _ (List.mem_append_right _ (List.mem_append_left _ (List.mem_of_getElem? (l := tables_1_7) (i := 89) rfl)))))))) rfl
theorem mw_7_93 : (.constantLong RX12 330 7 : Cond) ∈ wsA := wsA_t (List.mem_append_right _ (List.mem_append_right _ (List.mem_append_right _ (List.mem_append_right _ (List.mem_append_right _ (List.mem_append_right _ (List.mem_append_left _ (List.mem_of_getElem? (l := tables_1_7) (i := 93) rfl)))))))) rfl
theorem mw_7_100 : (.instanceMethod yX12_asksFor : Cond) ∈ wsA := wsA_t (List.mem_append_right _ (List.mem_append_right _ (List.mem_append_right _ (List.mem_append_right _ (List.mem_append_right _ (List.mem_append_right _ (List.mem_append_left _ (List.mem_of_getElem? (l := tables_1_7) (i := 100) rfl)))))))) rfl
theorem mp_6_5 : (.selects RX12 yX12_asksFor yX12_asksFor : Cond) ∈ wsA := wsA_p (q := (yX12_asksFor, 44)) (List.mem_append_right _ (List.mem_append_right _ (List.mem_append_right _ (List.mem_append_right _ (List.mem_append_right _ (List.mem_append_left _ (List.mem_of_getElem? (l := lw_privs_6) (i := 5) rfl)))))))
theorem mw_7_101 : (.code yX12_asksFor cX12_asksFor 2 (some .int) : Cond) ∈ wsA := wsA_t (List.mem_append_right _ (List.mem_append_right _ (List.mem_append_right _ (List.mem_append_right _ (List.mem_append_right _ (List.mem_append_right _ (List.mem_append_left _ (List.mem_of_getElem? (l := tables_1_7) (i := 101) rfl)))))))) rfl
theorem mw_7_98 : (.methodLink RX12 332 yX12_asksFor : Cond) ∈ wsA := wsA_t (List.mem_append_right _ (List.mem_append_right _ (List.mem_append_right _ (List.mem_append_right _ (List.mem_append_right _ (List.mem_append_right _ (List.mem_append_left _ (List.mem_of_getElem? (l := tables_1_7) (i := 98) rfl)))))))) rfl
theorem dX12_bend_0 : decode cX12_bend 0 = .ok (.aload_n 0, 1) := by decide +kernel
theorem dX12_bend_1 : decode cX12_bend 1 = .ok (.iload_n 1, 1) := by decide +kernel
theorem dX12_bend_2 : decode cX12_bend 2 = .ok (.invokevirtual 327, 3) := by decide +kernel
theorem dX12_bend_5 : decode cX12_bend 5 = .ok (.ifCond .eq 15, 3) := by decide +kernel
theorem dX12_bend_20 : decode cX12_bend 20 = .ok (.iconst (-1), 1) := by decide +kernel
theorem dX12_bend_21 : decode cX12_bend 21 = .ok (.ireturn, 1) := by decide +kernel
theorem dX12_bend_8 : decode cX12_bend 8 = .ok (.iload_n 2, 1) := by decide +kernel
theorem dX12_bend_9 : decode cX12_bend 9 = .ok (.i2l, 1) := by decide +kernel
theorem dX12_bend_10 : decode cX12_bend 10 = .ok (.lconst 0, 1) := by decide +kernel
theorem dX12_bend_11 : decode cX12_bend 11 = .ok (.ldc2_w 330, 3) := by decide +kernel
theorem dX12_bend_14 : decode cX12_bend 14 = .ok (.invokestatic 130, 3) := by decide +kernel
theorem dX12_bend_17 : decode cX12_bend 17 = .ok (.ifCond .ne 5, 3) := by decide +kernel
theorem dX12_bend_22 : decode cX12_bend 22 = .ok (.iload_n 2, 1) := by decide +kernel
theorem dX12_bend_23 : decode cX12_bend 23 = .ok (.iconst 2, 1) := by decide +kernel
theorem dX12_bend_24 : decode cX12_bend 24 = .ok (.if_icmp .ge 12, 3) := by decide +kernel
theorem dX12_bend_36 : decode cX12_bend 36 = .ok (.iload_n 2, 1) := by decide +kernel
theorem dX12_bend_37 : decode cX12_bend 37 = .ok (.iconst 2, 1) := by decide +kernel
theorem dX12_bend_38 : decode cX12_bend 38 = .ok (.if_icmp .ne 11, 3) := by decide +kernel
theorem dX12_bend_49 : decode cX12_bend 49 = .ok (.aload_n 0, 1) := by decide +kernel
theorem dX12_bend_50 : decode cX12_bend 50 = .ok (.iload_n 1, 1) := by decide +kernel
theorem dX12_bend_51 : decode cX12_bend 51 = .ok (.iload_n 2, 1) := by decide +kernel
theorem dX12_bend_52 : decode cX12_bend 52 = .ok (.iconst 3, 1) := by decide +kernel
theorem dX12_bend_53 : decode cX12_bend 53 = .ok (.isub, 1) := by decide +kernel
theorem dX12_bend_54 : decode cX12_bend 54 = .ok (.invokevirtual 313, 3) := by decide +kernel
theorem dX12_bend_57 : decode cX12_bend 57 = .ok (.ireturn, 1) := by decide +kernel
theorem dX12_bend_41 : decode cX12_bend 41 = .ok (.aload_n 0, 1) := by decide +kernel
theorem dX12_bend_42 : decode cX12_bend 42 = .ok (.iload_n 1, 1) := by decide +kernel
theorem dX12_bend_43 : decode cX12_bend 43 = .ok (.invokevirtual 332, 3) := by decide +kernel
theorem dX12_bend_46 : decode cX12_bend 46 = .ok (.goto 11, 3) := by decide +kernel
theorem dX12_bend_27 : decode cX12_bend 27 = .ok (.aload_n 0, 1) := by decide +kernel
theorem dX12_bend_28 : decode cX12_bend 28 = .ok (.iload_n 1, 1) := by decide +kernel
theorem dX12_bend_29 : decode cX12_bend 29 = .ok (.iload_n 2, 1) := by decide +kernel
theorem dX12_bend_30 : decode cX12_bend 30 = .ok (.invokevirtual 300, 3) := by decide +kernel
theorem dX12_bend_33 : decode cX12_bend 33 = .ok (.goto 24, 3) := by decide +kernel
theorem mv_X12_isBend : MV RX12 yX12_isBend cX12_isBend 2 (some .boolean) 1 := ⟨mw_7_91, mp_6_3, mw_1_13, mw_7_92, ⟨rfl, by decide, by decide, by decide +kernel⟩⟩
theorem mv_X12_asksFor : MV RX12 yX12_asksFor cX12_asksFor 2 (some .int) 1 := ⟨mw_7_100, mp_6_5, mw_1_13, mw_7_101, ⟨rfl, by decide, by decide, by decide +kernel⟩⟩
set_option maxHeartbeats 4000000 in
set_option maxRecDepth 100000 in
theorem cy_X12_bend (l : Launch) (D : va_G) (cA : Nat → ClassId) (L : List Nat) (T : Nat → Nat) (r : Rg) (hG : GR L T r) (hL : L.Nodup) (σ : Sg) (ρ : Lg) (hW : WT L ry T σ) (sz : Nat) (h0 : Nat) (mh0 : h0 ∈ L) (th0 : T h0 = 12) (p1 : Int32) (p2 : Int32) : Met l yX12_bend (.code yX12_bend cX12_bend 3 (some .int) :: wsA) ({ frames := 2, cells := 0, slots := 0, locals := 43 }) (PR D cA L T r σ ρ sz [.ref h0, .int p1, .int p2]) (QI D cA L T r ry ([] : List (Nat × Nat)) σ sz (fun x σ1 => True)) 0 0 (dm L sz) := by
  refine Met.ofW (cc := cX12_bend) (maxL := 3) (ret := (some .int)) (by decide) rfl ?_
  intro p e s m args below meth c s₁ B hml hv
  obtain ⟨rfl, hsz, hP, hK, hN⟩ := hv
  have hx := B.exec
  have hb := B.bytes
  have hr := B.returns
  have hts : ∀ w ∈ wsA, w.before _ s = true := fun w h => atoms_spec (ws := .code yX12_bend cX12_bend 3 (some .int) :: wsA) B.pre w (List.mem_cons_of_mem _ h)
  have hown : s.vm.findClass RX12 = some m.cls := findClass_of_methodNamed B.named
  subst hsz
  have hLA : LA (dm L s.heap.size) L := ⟨hL, fun a h => Or.inl h⟩
  have hA : ∀ q : Nat, s.heap.size ≤ q → dm L s.heap.size q := fun q h => Or.inr h
  have hS : va_S (dm L s.heap.size) s.heap s.heap [] := va_S.rf
  have hB : TS D cA L T r ry ([] : List (Nat × Nat)) σ σ ρ s.heap := ⟨hP, hW, FR.rf⟩
  have hl := lv_entry ([.ref h0, .int p1, .int p2]) (n := 3) (Nat.le_of_ble_eq_true rfl)
  rw [lg_entry_eq]
  generalize (lg_sl ([.ref h0, .int p1, .int p2]) ++ List.replicate (3 - (lg_sl ([.ref h0, .int p1, .int p2])).length) Slot.unset).toArray = ls at hl ⊢
  have hl : lv_has ls 3 [(0, .ref h0), (1, .int p1), (2, .int p2)] := hl
  refine lv_aload_n hx hb dX12_bend_0 rfl (lv_at hl 0 rfl) ?_
  refine lv_iload_n hx hb dX12_bend_1 rfl (lv_at hl 1 rfl) ?_
  refine t_ci (va_runV (As := [.int p1]) (rest := []) ⟨hx, hb, hml, hown, hts⟩ (cy_X12_isBend l D cA L T r hG hLA.1 σ ρ hB.2.1 _ h0 mh0 th0 p1) (cV hts mv_X12_isBend mw_7_89 rfl rfl ⟨Nat.le_of_ble_eq_true rfl, Nat.le_of_ble_eq_true rfl⟩) (pV hB.1 hK hN mh0 th0 (show shp cA 12 _ _ _ = .inr (12, Fs12 _ _ _) from rfl) rfl) rfl rfl hl.1 rfl (lv_room (Nat.le_of_ble_eq_true rfl)) dX12_bend_2 ⟨Nat.le_of_ble_eq_true rfl, Nat.le_of_ble_eq_true rfl⟩) hLA hA hB hS (by decide) (fun x_3 σ_1 ρ_2 H locs hB fσ_1 pσ_1 hS => ?_)
  have qσ_1 := FR.nil fσ_1
  subst qσ_1
  obtain ⟨ox_3, ix_3⟩ := pσ_1
  refine lv_if_eq (tgt := 20) hx hb dX12_bend_5 (by decide) (fun c_4 => ?_) (fun c_4 => ?_)
  · skip
    have uc_4 := i_eq (n := 0) (by decide) c_4
    refine lv_iconst (v := (-1)) hx hb dX12_bend_20 (by decide) ?_
    exact W.iret (v := (-1)) hx hb hr (fun t ht hW => ⟨⟨(-1), (σ, ρ_2), rfl, ⟨hB.2.1, hB.2.2, trivial⟩, (show TP D cA L T r σ ρ_2 t.heap from by rw [ht]; exact hB.1)⟩, hS.F ht⟩) hS.2.2 dX12_bend_21
  · skip
    have uc_4 := i_ne (n := 0) (by decide) c_4
    refine lv_iload_n hx hb dX12_bend_8 rfl (lv_at hl 2 rfl) ?_
    refine lv_i2l (v := p2.toInt64) hx hb dX12_bend_9 rfl ?_
    refine lv_lconst (v := 0) hx hb dX12_bend_10 (by decide) ?_
    refine lv_ldc2 (v := 7) hx hb hown (hts _ mw_7_93) dX12_bend_11 ?_
    refine t_ci (va_runS (As := [.long p2.toInt64, .long 0, .long 7]) (rest := []) ⟨hx, hb, hml, hown, hts⟩ (cy_X12_in_0_7 l D cA L T r hG hLA.1 σ ρ_2 hB.2.1 _ p2) (cS hts ms_X12_in mw_6_185 rfl rfl ⟨Nat.le_of_ble_eq_true rfl, Nat.le_of_ble_eq_true rfl⟩) (pS hB.1 hK hN) rfl rfl hl.1 rfl (lv_room (Nat.le_of_ble_eq_true rfl)) dX12_bend_14 ⟨Nat.le_of_ble_eq_true rfl, Nat.le_of_ble_eq_true rfl⟩) hLA hA hB hS (by decide) (fun x_7 σ_5 ρ_6 H locs hB fσ_5 pσ_5 hS => ?_)
    have qσ_5 := FR.nil fσ_5
    subst qσ_5
    obtain ⟨ox_7, ix_7⟩ := pσ_5
    refine lv_if_ne (tgt := 22) hx hb dX12_bend_17 (by decide) (fun c_8 => ?_) (fun c_8 => ?_)
    · skip
      have uc_8 := i_ne (n := 0) (by decide) c_8
      refine lv_iload_n hx hb dX12_bend_22 rfl (lv_at hl 2 rfl) ?_
      refine lv_iconst (v := 2) hx hb dX12_bend_23 (by decide) ?_
      refine lv_icmp_ge (tgt := 36) hx hb dX12_bend_24 (by decide) (fun c_9 => ?_) (fun c_9 => ?_)
      · skip
        have uc_9 := i_ge (n := 2) (by decide) c_9
        refine lv_iload_n hx hb dX12_bend_36 rfl (lv_at hl 2 rfl) ?_
        refine lv_iconst (v := 2) hx hb dX12_bend_37 (by decide) ?_
        refine lv_icmp_ne (tgt := 49) hx hb dX12_bend_38 (by decide) (fun c_10 => ?_) (fun c_10 => ?_)
        · skip
          have uc_10 := i_ne (n := 2) (by decide) c_10
          refine lv_aload_n hx hb dX12_bend_49 rfl (lv_at hl 0 rfl) ?_
          refine lv_iload_n hx hb dX12_bend_50 rfl (lv_at hl 1 rfl) ?_
          refine lv_iload_n hx hb dX12_bend_51 rfl (lv_at hl 2 rfl) ?_
          refine lv_iconst (v := 3) hx hb dX12_bend_52 (by decide) ?_
          refine lv_isub hx hb dX12_bend_53 ?_
          refine lv_topi (fun x_11 ex_11 => ?_)
          have vx_11 := b_sub (rfl : p2.toInt = _) (by decide : (3 : Int32).toInt = 3) ex_11 (by omega) (by omega)
          refine t_ci (va_runV (As := [.int p1, .int x_11]) (rest := []) ⟨hx, hb, hml, hown, hts⟩ (cy_X12_heapOf l D cA L T r hG hLA.1 σ ρ_6 hB.2.1 _ h0 mh0 th0 p1 x_11 (by first | omega | decide) (by first | omega | decide) (by first | omega | decide) (by first | omega | decide)) (cV hts mv_X12_heapOf mw_7_102 rfl rfl ⟨Nat.le_of_ble_eq_true rfl, Nat.le_of_ble_eq_true rfl⟩) (pV hB.1 hK hN mh0 th0 (show shp cA 12 _ _ _ = .inr (12, Fs12 _ _ _) from rfl) rfl) rfl rfl hl.1 rfl (lv_room (Nat.le_of_ble_eq_true rfl)) dX12_bend_54 ⟨Nat.le_of_ble_eq_true rfl, Nat.le_of_ble_eq_true rfl⟩) hLA hA hB hS (by decide) (fun x_14 σ_12 ρ_13 H locs hB fσ_12 pσ_12 hS => ?_)
          have qσ_12 := FR.nil fσ_12
          subst qσ_12
          obtain ⟨lx_14, ux_14⟩ := pσ_12
          exact W.iret (v := x_14) hx hb hr (fun t ht hW => ⟨⟨x_14, (σ, ρ_13), rfl, ⟨hB.2.1, hB.2.2, trivial⟩, (show TP D cA L T r σ ρ_13 t.heap from by rw [ht]; exact hB.1)⟩, hS.F ht⟩) hS.2.2 dX12_bend_57
        · skip
          have uc_10 := i_eq (n := 2) (by decide) c_10
          refine lv_aload_n hx hb dX12_bend_41 rfl (lv_at hl 0 rfl) ?_
          refine lv_iload_n hx hb dX12_bend_42 rfl (lv_at hl 1 rfl) ?_
          refine t_ci (va_runV (As := [.int p1]) (rest := []) ⟨hx, hb, hml, hown, hts⟩ (cy_X12_asksFor l D cA L T r hG hLA.1 σ ρ_6 hB.2.1 _ h0 mh0 th0 p1 (by first | omega | decide) (by first | omega | decide)) (cV hts mv_X12_asksFor mw_7_98 rfl rfl ⟨Nat.le_of_ble_eq_true rfl, Nat.le_of_ble_eq_true rfl⟩) (pV hB.1 hK hN mh0 th0 (show shp cA 12 _ _ _ = .inr (12, Fs12 _ _ _) from rfl) rfl) rfl rfl hl.1 rfl (lv_room (Nat.le_of_ble_eq_true rfl)) dX12_bend_43 ⟨Nat.le_of_ble_eq_true rfl, Nat.le_of_ble_eq_true rfl⟩) hLA hA hB hS (by decide) (fun x_17 σ_15 ρ_16 H locs hB fσ_15 pσ_15 hS => ?_)
          have qσ_15 := FR.nil fσ_15
          subst qσ_15
          obtain ⟨lx_17, ux_17⟩ := pσ_15
          refine lv_goto (tgt := 57) hx hb dX12_bend_46 (by decide) ?_
          exact W.iret (v := x_17) hx hb hr (fun t ht hW => ⟨⟨x_17, (σ, ρ_16), rfl, ⟨hB.2.1, hB.2.2, trivial⟩, (show TP D cA L T r σ ρ_16 t.heap from by rw [ht]; exact hB.1)⟩, hS.F ht⟩) hS.2.2 dX12_bend_57
      · skip
        have uc_9 := i_nge (n := 2) (by decide) c_9
        refine lv_aload_n hx hb dX12_bend_27 rfl (lv_at hl 0 rfl) ?_
        refine lv_iload_n hx hb dX12_bend_28 rfl (lv_at hl 1 rfl) ?_
        refine lv_iload_n hx hb dX12_bend_29 rfl (lv_at hl 2 rfl) ?_
        refine t_ci (va_runV (As := [.int p1, .int p2]) (rest := []) ⟨hx, hb, hml, hown, hts⟩ (cy_X12_sortOf l D cA L T r hG hLA.1 σ ρ_6 hB.2.1 _ h0 mh0 th0 p1 p2 (by first | omega | decide) (by first | omega | decide) (by first | omega | decide) (by first | omega | decide)) (cV hts mv_X12_sortOf mw_7_94 rfl rfl ⟨Nat.le_of_ble_eq_true rfl, Nat.le_of_ble_eq_true rfl⟩) (pV hB.1 hK hN mh0 th0 (show shp cA 12 _ _ _ = .inr (12, Fs12 _ _ _) from rfl) rfl) rfl rfl hl.1 rfl (lv_room (Nat.le_of_ble_eq_true rfl)) dX12_bend_30 ⟨Nat.le_of_ble_eq_true rfl, Nat.le_of_ble_eq_true rfl⟩) hLA hA hB hS (by decide) (fun x_20 σ_18 ρ_19 H locs hB fσ_18 pσ_18 hS => ?_)
        have qσ_18 := FR.nil fσ_18
        subst qσ_18
        obtain ⟨lx_20, ux_20⟩ := pσ_18
        refine lv_goto (tgt := 57) hx hb dX12_bend_33 (by decide) ?_
        exact W.iret (v := x_20) hx hb hr (fun t ht hW => ⟨⟨x_20, (σ, ρ_19), rfl, ⟨hB.2.1, hB.2.2, trivial⟩, (show TP D cA L T r σ ρ_19 t.heap from by rw [ht]; exact hB.1)⟩, hS.F ht⟩) hS.2.2 dX12_bend_57
    · skip
      have uc_8 := i_eq (n := 0) (by decide) c_8
      refine lv_iconst (v := (-1)) hx hb dX12_bend_20 (by decide) ?_
      exact W.iret (v := (-1)) hx hb hr (fun t ht hW => ⟨⟨(-1), (σ, ρ_6), rfl, ⟨hB.2.1, hB.2.2, trivial⟩, (show TP D cA L T r σ ρ_6 t.heap from by rw [ht]; exact hB.1)⟩, hS.F ht⟩) hS.2.2 dX12_bend_21
theorem mw_7_112 : (.instanceMethod yX12_isSort : Cond) ∈ wsA := wsA_t (List.mem_append_right _ (List.mem_append_right _ (List.mem_append_right _ (List.mem_append_right _ (List.mem_append_right _ (List.mem_append_right _ (List.mem_append_left _ (List.mem_of_getElem? (l := tables_1_7) (i := 112) rfl)))))))) rfl
theorem mp_6_7 : (.selects RX12 yX12_isSort yX12_isSort : Cond) ∈ wsA := wsA_p (q := (yX12_isSort, 44)) (List.mem_append_right _ (List.mem_append_right _ (List.mem_append_right _ (List.mem_append_right _ (List.mem_append_right _ (List.mem_append_left _ (List.mem_of_getElem? (l := lw_privs_6) (i := 7) rfl)))))))
theorem mw_7_113 : (.code yX12_isSort cX12_isSort 2 (some .boolean) : Cond) ∈ wsA := wsA_t (List.mem_append_right _ (List.mem_append_right _ (List.mem_append_right _ (List.mem_append_right _ (List.mem_append_right _ (List.mem_append_right _ (List.mem_append_left _ (List.mem_of_getElem? (l := tables_1_7) (i := 113) rfl)))))))) rfl
theorem mw_7_110 : (.methodLink RX12 335 yX12_isSort : Cond) ∈ wsA := wsA_t (List.mem_append_right _ (List.mem_append_right _ (List.mem_append_right _ (List.mem_append_right _ (List.mem_append_right _ (List.mem_append_right _ (List.mem_append_left _ (List.mem_of_getElem? (l := tables_1_7) (i := 110) rfl)))))))) rfl
theorem mw_7_114 : (.constantLong RX12 338 2 : Cond) ∈ wsA := wsA_t (List.mem_append_right _ (List.mem_append_right _ (List.mem_append_right _ (List.mem_append_right _ (List.mem_append_right _ (List.mem_append_right _ (List.mem_append_left _ (List.mem_of_getElem? (l := tables_1_7) (i := 114) rfl)))))))) rfl
theorem dX12_sort_0 : decode cX12_sort 0 = .ok (.aload_n 0, 1) := by decide +kernel
theorem dX12_sort_1 : decode cX12_sort 1 = .ok (.iload_n 1, 1) := by decide +kernel
theorem dX12_sort_2 : decode cX12_sort 2 = .ok (.invokevirtual 335, 3) := by decide +kernel
theorem dX12_sort_5 : decode cX12_sort 5 = .ok (.ifCond .eq 31, 3) := by decide +kernel
theorem dX12_sort_36 : decode cX12_sort 36 = .ok (.iconst (-1), 1) := by decide +kernel
theorem dX12_sort_37 : decode cX12_sort 37 = .ok (.ireturn, 1) := by decide +kernel
theorem dX12_sort_8 : decode cX12_sort 8 = .ok (.iload_n 2, 1) := by decide +kernel
theorem dX12_sort_9 : decode cX12_sort 9 = .ok (.i2l, 1) := by decide +kernel
theorem dX12_sort_10 : decode cX12_sort 10 = .ok (.lconst 0, 1) := by decide +kernel
theorem dX12_sort_11 : decode cX12_sort 11 = .ok (.ldc2_w 338, 3) := by decide +kernel
theorem dX12_sort_14 : decode cX12_sort 14 = .ok (.invokestatic 130, 3) := by decide +kernel
theorem dX12_sort_17 : decode cX12_sort 17 = .ok (.ifCond .eq 19, 3) := by decide +kernel
theorem dX12_sort_20 : decode cX12_sort 20 = .ok (.aload_n 0, 1) := by decide +kernel
theorem dX12_sort_21 : decode cX12_sort 21 = .ok (.getfield 39, 3) := by decide +kernel
theorem dX12_sort_24 : decode cX12_sort 24 = .ok (.bipush 94, 2) := by decide +kernel
theorem dX12_sort_26 : decode cX12_sort 26 = .ok (.iconst 3, 1) := by decide +kernel
theorem dX12_sort_27 : decode cX12_sort 27 = .ok (.iload_n 1, 1) := by decide +kernel
theorem dX12_sort_28 : decode cX12_sort 28 = .ok (.imul, 1) := by decide +kernel
theorem dX12_sort_29 : decode cX12_sort 29 = .ok (.iadd, 1) := by decide +kernel
theorem dX12_sort_30 : decode cX12_sort 30 = .ok (.iload_n 2, 1) := by decide +kernel
theorem dX12_sort_31 : decode cX12_sort 31 = .ok (.iadd, 1) := by decide +kernel
theorem dX12_sort_32 : decode cX12_sort 32 = .ok (.iaload, 1) := by decide +kernel
theorem dX12_sort_33 : decode cX12_sort 33 = .ok (.goto 4, 3) := by decide +kernel
theorem mv_X12_isSort : MV RX12 yX12_isSort cX12_isSort 2 (some .boolean) 1 := ⟨mw_7_112, mp_6_7, mw_1_13, mw_7_113, ⟨rfl, by decide, by decide, by decide +kernel⟩⟩
set_option maxHeartbeats 4000000 in
set_option maxRecDepth 100000 in
theorem cy_X12_sort (l : Launch) (D : va_G) (cA : Nat → ClassId) (L : List Nat) (T : Nat → Nat) (r : Rg) (hG : GR L T r) (hL : L.Nodup) (σ : Sg) (ρ : Lg) (hW : WT L ry T σ) (sz : Nat) (h0 : Nat) (mh0 : h0 ∈ L) (th0 : T h0 = 12) (p1 : Int32) (p2 : Int32) : Met l yX12_sort (.code yX12_sort cX12_sort 3 (some .int) :: wsA) ({ frames := 1, cells := 0, slots := 0, locals := 25 }) (PR D cA L T r σ ρ sz [.ref h0, .int p1, .int p2]) (QI D cA L T r ry ([] : List (Nat × Nat)) σ sz (fun x σ1 => True)) 0 0 (dm L sz) := by
  refine Met.ofW (cc := cX12_sort) (maxL := 3) (ret := (some .int)) (by decide) rfl ?_
  intro p e s m args below meth c s₁ B hml hv
  obtain ⟨rfl, hsz, hP, hK, hN⟩ := hv
  have hx := B.exec
  have hb := B.bytes
  have hr := B.returns
  have hts : ∀ w ∈ wsA, w.before _ s = true := fun w h => atoms_spec (ws := .code yX12_sort cX12_sort 3 (some .int) :: wsA) B.pre w (List.mem_cons_of_mem _ h)
  have hown : s.vm.findClass RX12 = some m.cls := findClass_of_methodNamed B.named
  subst hsz
  have hLA : LA (dm L s.heap.size) L := ⟨hL, fun a h => Or.inl h⟩
  have hA : ∀ q : Nat, s.heap.size ≤ q → dm L s.heap.size q := fun q h => Or.inr h
  have hS : va_S (dm L s.heap.size) s.heap s.heap [] := va_S.rf
  have hB : TS D cA L T r ry ([] : List (Nat × Nat)) σ σ ρ s.heap := ⟨hP, hW, FR.rf⟩
  have hl := lv_entry ([.ref h0, .int p1, .int p2]) (n := 3) (Nat.le_of_ble_eq_true rfl)
  rw [lg_entry_eq]
  generalize (lg_sl ([.ref h0, .int p1, .int p2]) ++ List.replicate (3 - (lg_sl ([.ref h0, .int p1, .int p2])).length) Slot.unset).toArray = ls at hl ⊢
  have hl : lv_has ls 3 [(0, .ref h0), (1, .int p1), (2, .int p2)] := hl
  refine lv_aload_n hx hb dX12_sort_0 rfl (lv_at hl 0 rfl) ?_
  refine lv_iload_n hx hb dX12_sort_1 rfl (lv_at hl 1 rfl) ?_
  refine t_ci (va_runV (As := [.int p1]) (rest := []) ⟨hx, hb, hml, hown, hts⟩ (cy_X12_isSort l D cA L T r hG hLA.1 σ ρ hB.2.1 _ h0 mh0 th0 p1) (cV hts mv_X12_isSort mw_7_110 rfl rfl ⟨Nat.le_of_ble_eq_true rfl, Nat.le_of_ble_eq_true rfl⟩) (pV hB.1 hK hN mh0 th0 (show shp cA 12 _ _ _ = .inr (12, Fs12 _ _ _) from rfl) rfl) rfl rfl hl.1 rfl (lv_room (Nat.le_of_ble_eq_true rfl)) dX12_sort_2 ⟨Nat.le_of_ble_eq_true rfl, Nat.le_of_ble_eq_true rfl⟩) hLA hA hB hS (by decide) (fun x_3 σ_1 ρ_2 H locs hB fσ_1 pσ_1 hS => ?_)
  have qσ_1 := FR.nil fσ_1
  subst qσ_1
  obtain ⟨ox_3, ix_3⟩ := pσ_1
  refine lv_if_eq (tgt := 36) hx hb dX12_sort_5 (by decide) (fun c_4 => ?_) (fun c_4 => ?_)
  · skip
    have uc_4 := i_eq (n := 0) (by decide) c_4
    refine lv_iconst (v := (-1)) hx hb dX12_sort_36 (by decide) ?_
    exact W.iret (v := (-1)) hx hb hr (fun t ht hW => ⟨⟨(-1), (σ, ρ_2), rfl, ⟨hB.2.1, hB.2.2, trivial⟩, (show TP D cA L T r σ ρ_2 t.heap from by rw [ht]; exact hB.1)⟩, hS.F ht⟩) hS.2.2 dX12_sort_37
  · skip
    have uc_4 := i_ne (n := 0) (by decide) c_4
    refine lv_iload_n hx hb dX12_sort_8 rfl (lv_at hl 2 rfl) ?_
    refine lv_i2l (v := p2.toInt64) hx hb dX12_sort_9 rfl ?_
    refine lv_lconst (v := 0) hx hb dX12_sort_10 (by decide) ?_
    refine lv_ldc2 (v := 2) hx hb hown (hts _ mw_7_114) dX12_sort_11 ?_
    refine t_ci (va_runS (As := [.long p2.toInt64, .long 0, .long 2]) (rest := []) ⟨hx, hb, hml, hown, hts⟩ (cy_X12_in_0_2 l D cA L T r hG hLA.1 σ ρ_2 hB.2.1 _ p2) (cS hts ms_X12_in mw_6_185 rfl rfl ⟨Nat.le_of_ble_eq_true rfl, Nat.le_of_ble_eq_true rfl⟩) (pS hB.1 hK hN) rfl rfl hl.1 rfl (lv_room (Nat.le_of_ble_eq_true rfl)) dX12_sort_14 ⟨Nat.le_of_ble_eq_true rfl, Nat.le_of_ble_eq_true rfl⟩) hLA hA hB hS (by decide) (fun x_7 σ_5 ρ_6 H locs hB fσ_5 pσ_5 hS => ?_)
    have qσ_5 := FR.nil fσ_5
    subst qσ_5
    obtain ⟨ox_7, ix_7⟩ := pσ_5
    refine lv_if_eq (tgt := 36) hx hb dX12_sort_17 (by decide) (fun c_8 => ?_) (fun c_8 => ?_)
    · skip
      have uc_8 := i_eq (n := 0) (by decide) c_8
      refine lv_iconst (v := (-1)) hx hb dX12_sort_36 (by decide) ?_
      exact W.iret (v := (-1)) hx hb hr (fun t ht hW => ⟨⟨(-1), (σ, ρ_6), rfl, ⟨hB.2.1, hB.2.2, trivial⟩, (show TP D cA L T r σ ρ_6 t.heap from by rw [ht]; exact hB.1)⟩, hS.F ht⟩) hS.2.2 dX12_sort_37
    · skip
      have uc_8 := i_ne (n := 0) (by decide) c_8
      refine lv_aload_n hx hb dX12_sort_20 rfl (lv_at hl 0 rfl) ?_
      refine t_gr hx hb hts hown hK hG hB mh0 th0 fq_12_20 rfl mw_5_236 dX12_sort_21 (fun b_9 hb_9 mb_9 tb_9 => ?_)
      refine lv_bipush (v := 94) hx hb dX12_sort_24 (by decide) ?_
      refine lv_iconst (v := 3) hx hb dX12_sort_26 (by decide) ?_
      refine lv_iload_n hx hb dX12_sort_27 rfl (lv_at hl 1 rfl) ?_
      refine lv_imul hx hb dX12_sort_28 ?_
      refine lv_topi (fun x_10 ex_10 => ?_)
      try have vx_10 := b_mul (by decide : (3 : Int32).toInt = 3) (rfl : p1.toInt = _) ex_10 (by omega) (by omega)
      refine lv_iadd hx hb dX12_sort_29 ?_
      refine lv_topi (fun x_11 ex_11 => ?_)
      try have vx_11 := b_add (by decide : (94 : Int32).toInt = 94) (rfl : x_10.toInt = _) ex_11 (by omega) (by omega)
      refine lv_iload_n hx hb dX12_sort_30 rfl (lv_at hl 2 rfl) ?_
      refine lv_iadd hx hb dX12_sort_31 ?_
      refine lv_topi (fun x_12 ex_12 => ?_)
      try have vx_12 := b_add (rfl : x_11.toInt = _) (rfl : p2.toInt = _) ex_12 (by omega) (by omega)
      refine t_aj hx hb hK hB mb_9 tb_9 ai_70 (i_in (by omega) (by omega)) dX12_sort_32 (fun x_13 ex_13 lx_13 ux_13 => ?_)
      clear lx_13 ux_13
      have cx_13 := congrArg Int32.toInt ex_13
      refine lv_goto (tgt := 37) hx hb dX12_sort_33 (by decide) ?_
      exact W.iret (v := x_13) hx hb hr (fun t ht hW => ⟨⟨x_13, (σ, ρ_6), rfl, ⟨hB.2.1, hB.2.2, trivial⟩, (show TP D cA L T r σ ρ_6 t.heap from by rw [ht]; exact hB.1)⟩, hS.F ht⟩) hS.2.2 dX12_sort_37
