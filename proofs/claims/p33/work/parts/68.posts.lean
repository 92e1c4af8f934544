set_option maxHeartbeats 4000000 in
set_option maxRecDepth 100000 in
theorem cz_X11_seed (l : Launch) (D : va_G) (cA : Nat → ClassId) (L : List Nat) (T : Nat → Nat) (r : Rg) (hG : GR L T r) (hL : L.Nodup) (σ : Sg) (ρ : Lg) (hW : WT L ry T σ) (sz : Nat) (h0 : Nat) (mh0 : h0 ∈ L) (th0 : T h0 = 11) (p1 : Int32) (bw : Nat) (hbw : r h0 3 = some bw) (mbw : bw ∈ L) (tbw : T bw = 10) : Met l yX11_seed (.code yX11_seed cX11_seed 3 (some .int) :: wsA) ({ frames := 0, cells := 0, slots := 0, locals := 0 }) (PR D cA L T r σ ρ sz [.ref h0, .int p1]) (QI D cA L T r ry [(10, 8)] σ sz (fun x σ1 => ((p1.toInt < 0 → x = -1 ∧ σ1 bw 8 = σ bw 8) ∧ (0 ≤ p1.toInt → x = σ bw 8 ∧ σ1 bw 8 = p1)))) 0 0 (dm L sz) := by
  refine Met.ofW (cc := cX11_seed) (maxL := 3) (ret := (some .int)) (by decide) rfl ?_
  intro p e s m args below meth c s₁ B hml hv
  obtain ⟨rfl, hsz, hP, hK, hN⟩ := hv
  have hx := B.exec
  have hb := B.bytes
  have hr := B.returns
  have hts : ∀ w ∈ wsA, w.before _ s = true := fun w h => atoms_spec (ws := .code yX11_seed cX11_seed 3 (some .int) :: wsA) B.pre w (List.mem_cons_of_mem _ h)
  have hown : s.vm.findClass RX11 = some m.cls := findClass_of_methodNamed B.named
  subst hsz
  have hLA : LA (dm L s.heap.size) L := ⟨hL, fun a h => Or.inl h⟩
  have hA : ∀ q : Nat, s.heap.size ≤ q → dm L s.heap.size q := fun q h => Or.inr h
  have hS : va_S (dm L s.heap.size) s.heap s.heap [] := va_S.rf
  have hB : TS D cA L T r ry [(10, 8)] σ σ ρ s.heap := ⟨hP, hW, FR.rf⟩
  have hl := lv_entry ([.ref h0, .int p1]) (n := 3) (Nat.le_of_ble_eq_true rfl)
  rw [lg_entry_eq]
  generalize (lg_sl ([.ref h0, .int p1]) ++ List.replicate (3 - (lg_sl ([.ref h0, .int p1])).length) Slot.unset).toArray = ls at hl ⊢
  have hl : lv_has ls 3 [(0, .ref h0), (1, .int p1)] := hl
  have w_1 : (-2147483648) ≤ (σ bw 8).toInt ∧ (σ bw 8).toInt ≤ 2147483647 := by have z := hB.2.1 bw mbw 8; rw [tbw] at z; exact z
  refine lv_iload_n hx hb dX11_seed_0 rfl (lv_at hl 1 rfl) ?_
  refine lv_if_ge (tgt := 6) hx hb dX11_seed_1 (by decide) (fun c_2 => ?_) (fun c_2 => ?_)
  · skip
    have uc_2 := i_ge (n := 0) (by decide) c_2
    refine lv_aload_n hx hb dX11_seed_6 rfl (lv_at hl 0 rfl) ?_
    refine t_gk hx hb hts hown hK hB mh0 th0 fq_11_3 hbw mw_2_210 dX11_seed_7 ?_
    refine t_gv hx hb hts hown hK hB mbw tbw fi_10_8 rfl mw_2_18 dX11_seed_10 ?_
    refine lv_istore_n (lv' := [(2, .int (σ bw 8)), (0, .ref h0), (1, .int p1)]) hx hb dX11_seed_13 rfl hl (by decide) rfl (fun ls hl => ?_)
    refine lv_aload_n hx hb dX11_seed_14 rfl (lv_at hl 1 rfl) ?_
    refine t_gk hx hb hts hown hK hB mh0 th0 fq_11_3 hbw mw_2_210 dX11_seed_15 ?_
    refine lv_iload_n hx hb dX11_seed_18 rfl (lv_at hl 2 rfl) ?_
    refine t_pi hx hb hts hown hK hLA hB hS mbw tbw fi_10_8 rfl rfl rfl (i_lo _) (i_hi _) (Or.inl (by decide)) mw_2_18 dX11_seed_19 (fun H locs σ_3 eσ_3 hB hS => ?_)
    have k_4 : σ_3 bw 8 = p1 := by rw [eσ_3]; exact up2_same _ _ _ _
    refine lv_iload_n hx hb dX11_seed_22 rfl (lv_at hl 0 rfl) ?_
    exact W.iret (v := (σ bw 8)) hx hb hr (fun t ht hW => ⟨⟨(σ bw 8), (σ_3, ρ), rfl, ⟨hB.2.1, hB.2.2, (show (p1.toInt < 0 → ((σ bw 8) : Int32) = -1 ∧ σ_3 bw 8 = σ bw 8) ∧ (0 ≤ p1.toInt → ((σ bw 8) : Int32) = σ bw 8 ∧ σ_3 bw 8 = p1) from ⟨fun h => by exfalso; omega, fun _ => ⟨rfl, k_4⟩⟩)⟩, (show TP D cA L T r σ_3 ρ t.heap from by rw [ht]; exact hB.1)⟩, hS.F ht⟩) hS.2.2 dX11_seed_23
  · skip
    have uc_2 := i_nge (n := 0) (by decide) c_2
    refine lv_iconst (v := (-1)) hx hb dX11_seed_4 (by decide) ?_
    exact W.iret (v := (-1)) hx hb hr (fun t ht hW => ⟨⟨(-1), (σ, ρ), rfl, ⟨hB.2.1, hB.2.2, (show (p1.toInt < 0 → ((-1) : Int32) = -1 ∧ σ bw 8 = σ bw 8) ∧ (0 ≤ p1.toInt → ((-1) : Int32) = σ bw 8 ∧ σ bw 8 = p1) from ⟨fun _ => ⟨rfl, rfl⟩, fun h => by exfalso; omega⟩)⟩, (show TP D cA L T r σ ρ t.heap from by rw [ht]; exact hB.1)⟩, hS.F ht⟩) hS.2.2 dX11_seed_5
set_option maxHeartbeats 4000000 in
set_option maxRecDepth 100000 in
theorem cz_X12_seed (l : Launch) (D : va_G) (cA : Nat → ClassId) (L : List Nat) (T : Nat → Nat) (r : Rg) (hG : GR L T r) (hL : L.Nodup) (σ : Sg) (ρ : Lg) (hW : WT L ry T σ) (sz : Nat) (h0 : Nat) (mh0 : h0 ∈ L) (th0 : T h0 = 12) (p1 : Int32) : Met l yX12_seed (.code yX12_seed cX12_seed 3 (some .int) :: wsA) ({ frames := 0, cells := 0, slots := 0, locals := 0 }) (PR D cA L T r σ ρ sz [.ref h0, .int p1]) (QI D cA L T r ry [(12, 22)] σ sz (fun x σ1 => ((p1.toInt < 0 → x = -1 ∧ σ1 h0 22 = σ h0 22) ∧ (0 ≤ p1.toInt → x = σ h0 22 ∧ σ1 h0 22 = p1)))) 0 0 (dm L sz) := by
  refine Met.ofW (cc := cX12_seed) (maxL := 3) (ret := (some .int)) (by decide) rfl ?_
  intro p e s m args below meth c s₁ B hml hv
  obtain ⟨rfl, hsz, hP, hK, hN⟩ := hv
  have hx := B.exec
  have hb := B.bytes
  have hr := B.returns
  have hts : ∀ w ∈ wsA, w.before _ s = true := fun w h => atoms_spec (ws := .code yX12_seed cX12_seed 3 (some .int) :: wsA) B.pre w (List.mem_cons_of_mem _ h)
  have hown : s.vm.findClass RX12 = some m.cls := findClass_of_methodNamed B.named
  subst hsz
  have hLA : LA (dm L s.heap.size) L := ⟨hL, fun a h => Or.inl h⟩
  have hA : ∀ q : Nat, s.heap.size ≤ q → dm L s.heap.size q := fun q h => Or.inr h
  have hS : va_S (dm L s.heap.size) s.heap s.heap [] := va_S.rf
  have hB : TS D cA L T r ry [(12, 22)] σ σ ρ s.heap := ⟨hP, hW, FR.rf⟩
  have hl := lv_entry ([.ref h0, .int p1]) (n := 3) (Nat.le_of_ble_eq_true rfl)
  rw [lg_entry_eq]
  generalize (lg_sl ([.ref h0, .int p1]) ++ List.replicate (3 - (lg_sl ([.ref h0, .int p1])).length) Slot.unset).toArray = ls at hl ⊢
  have hl : lv_has ls 3 [(0, .ref h0), (1, .int p1)] := hl
  have w_1 : (-2147483648) ≤ (σ h0 22).toInt ∧ (σ h0 22).toInt ≤ 2147483647 := by have z := hB.2.1 h0 mh0 22; rw [th0] at z; exact z
  refine lv_iload_n hx hb dX12_seed_0 rfl (lv_at hl 1 rfl) ?_
  refine lv_if_ge (tgt := 6) hx hb dX12_seed_1 (by decide) (fun c_2 => ?_) (fun c_2 => ?_)
  · skip
    have uc_2 := i_ge (n := 0) (by decide) c_2
    refine lv_aload_n hx hb dX12_seed_6 rfl (lv_at hl 0 rfl) ?_
    refine t_gv hx hb hts hown hK hB mh0 th0 fi_12_22 rfl mw_5_238 dX12_seed_7 ?_
    refine lv_istore_n (lv' := [(2, .int (σ h0 22)), (0, .ref h0), (1, .int p1)]) hx hb dX12_seed_10 rfl hl (by decide) rfl (fun ls hl => ?_)
    refine lv_aload_n hx hb dX12_seed_11 rfl (lv_at hl 1 rfl) ?_
    refine lv_iload_n hx hb dX12_seed_12 rfl (lv_at hl 2 rfl) ?_
    refine t_pi hx hb hts hown hK hLA hB hS mh0 th0 fi_12_22 rfl rfl rfl (i_lo _) (i_hi _) (Or.inl (by decide)) mw_5_238 dX12_seed_13 (fun H locs σ_3 eσ_3 hB hS => ?_)
    have k_4 : σ_3 h0 22 = p1 := by rw [eσ_3]; exact up2_same _ _ _ _
    refine lv_iload_n hx hb dX12_seed_16 rfl (lv_at hl 0 rfl) ?_
    exact W.iret (v := (σ h0 22)) hx hb hr (fun t ht hW => ⟨⟨(σ h0 22), (σ_3, ρ), rfl, ⟨hB.2.1, hB.2.2, (show (p1.toInt < 0 → ((σ h0 22) : Int32) = -1 ∧ σ_3 h0 22 = σ h0 22) ∧ (0 ≤ p1.toInt → ((σ h0 22) : Int32) = σ h0 22 ∧ σ_3 h0 22 = p1) from ⟨fun h => by exfalso; omega, fun _ => ⟨rfl, k_4⟩⟩)⟩, (show TP D cA L T r σ_3 ρ t.heap from by rw [ht]; exact hB.1)⟩, hS.F ht⟩) hS.2.2 dX12_seed_17
  · skip
    have uc_2 := i_nge (n := 0) (by decide) c_2
    refine lv_iconst (v := (-1)) hx hb dX12_seed_4 (by decide) ?_
    exact W.iret (v := (-1)) hx hb hr (fun t ht hW => ⟨⟨(-1), (σ, ρ), rfl, ⟨hB.2.1, hB.2.2, (show (p1.toInt < 0 → ((-1) : Int32) = -1 ∧ σ h0 22 = σ h0 22) ∧ (0 ≤ p1.toInt → ((-1) : Int32) = σ h0 22 ∧ σ h0 22 = p1) from ⟨fun _ => ⟨rfl, rfl⟩, fun h => by exfalso; omega⟩)⟩, (show TP D cA L T r σ ρ t.heap from by rw [ht]; exact hB.1)⟩, hS.F ht⟩) hS.2.2 dX12_seed_5
set_option maxHeartbeats 4000000 in
set_option maxRecDepth 100000 in
theorem cz_X12_isRule (l : Launch) (D : va_G) (cA : Nat → ClassId) (L : List Nat) (T : Nat → Nat) (r : Rg) (hG : GR L T r) (hL : L.Nodup) (σ : Sg) (ρ : Lg) (hW : WT L ry T σ) (sz : Nat) (h0 : Nat) (mh0 : h0 ∈ L) (th0 : T h0 = 12) (p1 : Int32) : Met l yX12_isRule (.code yX12_isRule cX12_isRule 2 (some .boolean) :: wsA) ({ frames := 0, cells := 0, slots := 0, locals := 0 }) (PR D cA L T r σ ρ sz [.ref h0, .int p1]) (QI D cA L T r ry ([] : List (Nat × Nat)) σ sz (fun x σ1 => ((x.toInt = 0 ∨ x.toInt = 1) ∧ (x.toInt = 1 → 0 ≤ p1.toInt ∧ p1.toInt ≤ 5 ∧ p1.toInt < (σ1 h0 2).toInt)))) 0 0 (dm L sz) := by
  refine Met.ofW (cc := cX12_isRule) (maxL := 2) (ret := (some .boolean)) (by decide) rfl ?_
  intro p e s m args below meth c s₁ B hml hv
  obtain ⟨rfl, hsz, hP, hK, hN⟩ := hv
  have hx := B.exec
  have hb := B.bytes
  have hr := B.returns
  have hts : ∀ w ∈ wsA, w.before _ s = true := fun w h => atoms_spec (ws := .code yX12_isRule cX12_isRule 2 (some .boolean) :: wsA) B.pre w (List.mem_cons_of_mem _ h)
  have hown : s.vm.findClass RX12 = some m.cls := findClass_of_methodNamed B.named
  subst hsz
  have hLA : LA (dm L s.heap.size) L := ⟨hL, fun a h => Or.inl h⟩
  have hA : ∀ q : Nat, s.heap.size ≤ q → dm L s.heap.size q := fun q h => Or.inr h
  have hS : va_S (dm L s.heap.size) s.heap s.heap [] := va_S.rf
  have hB : TS D cA L T r ry ([] : List (Nat × Nat)) σ σ ρ s.heap := ⟨hP, hW, FR.rf⟩
  have hl := lv_entry ([.ref h0, .int p1]) (n := 2) (Nat.le_of_ble_eq_true rfl)
  rw [lg_entry_eq]
  generalize (lg_sl ([.ref h0, .int p1]) ++ List.replicate (2 - (lg_sl ([.ref h0, .int p1])).length) Slot.unset).toArray = ls at hl ⊢
  have hl : lv_has ls 2 [(0, .ref h0), (1, .int p1)] := hl
  have w_1 : 0 ≤ (σ h0 2).toInt ∧ (σ h0 2).toInt ≤ 6 := by have z := hB.2.1 h0 mh0 2; rw [th0] at z; exact z
  refine lv_iload_n hx hb dX12_isRule_0 rfl (lv_at hl 1 rfl) ?_
  refine lv_if_lt (tgt := 16) hx hb dX12_isRule_1 (by decide) (fun c_2 => ?_) (fun c_2 => ?_)
  · skip
    have uc_2 := i_lt (n := 0) (by decide) c_2
    refine lv_iconst (v := 0) hx hb dX12_isRule_16 (by decide) ?_
    exact W.zret (v := 0) hx hb hr rfl (fun t ht hW => ⟨⟨0, (σ, ρ), rfl, ⟨hB.2.1, hB.2.2, (show ((0 : Int32).toInt = 0 ∨ (0 : Int32).toInt = 1) ∧ ((0 : Int32).toInt = 1 → 0 ≤ p1.toInt ∧ p1.toInt ≤ 5 ∧ p1.toInt < (σ h0 2).toInt) from ⟨Or.inl (by decide), fun h => absurd h (by decide)⟩)⟩, (show TP D cA L T r σ ρ t.heap from by rw [ht]; exact hB.1)⟩, hS.F ht⟩) hS.2.2 dX12_isRule_17
  · skip
    have uc_2 := i_nlt (n := 0) (by decide) c_2
    refine lv_iload_n hx hb dX12_isRule_4 rfl (lv_at hl 1 rfl) ?_
    refine lv_aload_n hx hb dX12_isRule_5 rfl (lv_at hl 0 rfl) ?_
    refine t_gv hx hb hts hown hK hB mh0 th0 fi_12_2 rfl mw_5_218 dX12_isRule_6 ?_
    refine lv_icmp_ge (tgt := 16) hx hb dX12_isRule_9 (by decide) (fun c_3 => ?_) (fun c_3 => ?_)
    · skip
      have uc_3 := j_le c_3
      refine lv_iconst (v := 0) hx hb dX12_isRule_16 (by decide) ?_
      exact W.zret (v := 0) hx hb hr rfl (fun t ht hW => ⟨⟨0, (σ, ρ), rfl, ⟨hB.2.1, hB.2.2, (show ((0 : Int32).toInt = 0 ∨ (0 : Int32).toInt = 1) ∧ ((0 : Int32).toInt = 1 → 0 ≤ p1.toInt ∧ p1.toInt ≤ 5 ∧ p1.toInt < (σ h0 2).toInt) from ⟨Or.inl (by decide), fun h => absurd h (by decide)⟩)⟩, (show TP D cA L T r σ ρ t.heap from by rw [ht]; exact hB.1)⟩, hS.F ht⟩) hS.2.2 dX12_isRule_17
    · skip
      have uc_3 := j_nle c_3
      refine lv_iconst (v := 1) hx hb dX12_isRule_12 (by decide) ?_
      refine lv_goto (tgt := 17) hx hb dX12_isRule_13 (by decide) ?_
      exact W.zret (v := 1) hx hb hr rfl (fun t ht hW => ⟨⟨1, (σ, ρ), rfl, ⟨hB.2.1, hB.2.2, (show ((1 : Int32).toInt = 0 ∨ (1 : Int32).toInt = 1) ∧ ((1 : Int32).toInt = 1 → 0 ≤ p1.toInt ∧ p1.toInt ≤ 5 ∧ p1.toInt < (σ h0 2).toInt) from ⟨Or.inr (by decide), fun _ => by omega⟩)⟩, (show TP D cA L T r σ ρ t.heap from by rw [ht]; exact hB.1)⟩, hS.F ht⟩) hS.2.2 dX12_isRule_17
set_option maxHeartbeats 4000000 in
set_option maxRecDepth 100000 in
theorem cz_X12_force (l : Launch) (D : va_G) (cA : Nat → ClassId) (L : List Nat) (T : Nat → Nat) (r : Rg) (hG : GR L T r) (hL : L.Nodup) (σ : Sg) (ρ : Lg) (hW : WT L ry T σ) (sz : Nat) (h0 : Nat) (mh0 : h0 ∈ L) (th0 : T h0 = 12) (p1 : Int32) (w0 : (σ h0 21).toInt < (σ h0 2).toInt) : Met l yX12_force (.code yX12_force cX12_force 3 (some .int) :: wsA) ({ frames := 1, cells := 0, slots := 0, locals := 21 }) (PR D cA L T r σ ρ sz [.ref h0, .int p1]) (QI D cA L T r ry [(12, 21)] σ sz (fun x σ1 => ((σ1 h0 21).toInt < (σ1 h0 2).toInt))) 0 0 (dm L sz) := by
  refine Met.ofW (cc := cX12_force) (maxL := 3) (ret := (some .int)) (by decide) rfl ?_
  intro p e s m args below meth c s₁ B hml hv
  obtain ⟨rfl, hsz, hP, hK, hN⟩ := hv
  have hx := B.exec
  have hb := B.bytes
  have hr := B.returns
  have hts : ∀ w ∈ wsA, w.before _ s = true := fun w h => atoms_spec (ws := .code yX12_force cX12_force 3 (some .int) :: wsA) B.pre w (List.mem_cons_of_mem _ h)
  have hown : s.vm.findClass RX12 = some m.cls := findClass_of_methodNamed B.named
  subst hsz
  have hLA : LA (dm L s.heap.size) L := ⟨hL, fun a h => Or.inl h⟩
  have hA : ∀ q : Nat, s.heap.size ≤ q → dm L s.heap.size q := fun q h => Or.inr h
  have hS : va_S (dm L s.heap.size) s.heap s.heap [] := va_S.rf
  have hB : TS D cA L T r ry [(12, 21)] σ σ ρ s.heap := ⟨hP, hW, FR.rf⟩
  have hl := lv_entry ([.ref h0, .int p1]) (n := 3) (Nat.le_of_ble_eq_true rfl)
  rw [lg_entry_eq]
  generalize (lg_sl ([.ref h0, .int p1]) ++ List.replicate (3 - (lg_sl ([.ref h0, .int p1])).length) Slot.unset).toArray = ls at hl ⊢
  have hl : lv_has ls 3 [(0, .ref h0), (1, .int p1)] := hl
  have w_1 : (-1) ≤ (σ h0 21).toInt ∧ (σ h0 21).toInt ≤ 5 := by have z := hB.2.1 h0 mh0 21; rw [th0] at z; exact z
  have w_2 : 0 ≤ (σ h0 2).toInt ∧ (σ h0 2).toInt ≤ 6 := by have z := hB.2.1 h0 mh0 2; rw [th0] at z; exact z
  refine lv_iload_n hx hb dX12_force_0 rfl (lv_at hl 1 rfl) ?_
  refine lv_iconst (v := (-1)) hx hb dX12_force_1 (by decide) ?_
  refine lv_icmp_eq (tgt := 16) hx hb dX12_force_2 (by decide) (fun c_3 => ?_) (fun c_3 => ?_)
  · skip
    have uc_3 := i_eq (n := (-1)) (by decide) c_3
    refine lv_aload_n hx hb dX12_force_16 rfl (lv_at hl 0 rfl) ?_
    refine t_gv hx hb hts hown hK hB mh0 th0 fi_12_21 rfl mw_5_237 dX12_force_17 ?_
    refine lv_istore_n (lv' := [(2, .int (σ h0 21)), (0, .ref h0), (1, .int p1)]) hx hb dX12_force_20 rfl hl (by decide) rfl (fun ls hl => ?_)
    refine lv_aload_n hx hb dX12_force_21 rfl (lv_at hl 1 rfl) ?_
    refine lv_iload_n hx hb dX12_force_22 rfl (lv_at hl 2 rfl) ?_
    refine t_pi hx hb hts hown hK hLA hB hS mh0 th0 fi_12_21 rfl rfl rfl (by first | omega | (subst_vars; omega)) (by first | omega | (subst_vars; omega)) (Or.inl (by decide)) mw_5_237 dX12_force_23 (fun H locs σ_4 eσ_4 hB hS => ?_)
    have k_5 : σ_4 h0 21 = p1 := by rw [eσ_4]; exact up2_same _ _ _ _
    refine lv_iload_n hx hb dX12_force_26 rfl (lv_at hl 0 rfl) ?_
    have k_6 : σ_4 h0 2 = (σ h0 2) := by rw [eσ_4, up2_nej _ _ (by decide)]
    exact W.iret (v := (σ h0 21)) hx hb hr (fun t ht hW => ⟨⟨(σ h0 21), (σ_4, ρ), rfl, ⟨hB.2.1, hB.2.2, (show (σ_4 h0 21).toInt < (σ_4 h0 2).toInt from (by rw [k_5, k_6]; (first | omega | (rw [show ((-1) : Int32).toInt = -1 from by decide]; omega))))⟩, (show TP D cA L T r σ_4 ρ t.heap from by rw [ht]; exact hB.1)⟩, hS.F ht⟩) hS.2.2 dX12_force_27
  · skip
    have uc_3 := i_ne (n := (-1)) (by decide) c_3
    refine lv_aload_n hx hb dX12_force_5 rfl (lv_at hl 0 rfl) ?_
    refine lv_iload_n hx hb dX12_force_6 rfl (lv_at hl 1 rfl) ?_
    refine t_ci (va_runV (As := [.int p1]) (rest := []) ⟨hx, hb, hml, hown, hts⟩ (cz_X12_isRule l D cA L T r hG hLA.1 σ ρ hB.2.1 _ h0 mh0 th0 p1) (cV hts mv_X12_isRule mw_7_56 rfl rfl ⟨Nat.le_of_ble_eq_true rfl, Nat.le_of_ble_eq_true rfl⟩) (pV hB.1 hK hN mh0 th0 (show shp cA 12 _ _ _ = .inr (12, Fs12 _ _ _) from rfl) rfl) rfl rfl hl.1 rfl (lv_room (Nat.le_of_ble_eq_true rfl)) dX12_force_7 ⟨Nat.le_of_ble_eq_true rfl, Nat.le_of_ble_eq_true rfl⟩) hLA hA hB hS (by decide) (fun x_9 σ_7 ρ_8 H locs hB fσ_7 pσ_7 hS => ?_)
    have qσ_7 := FR.nil fσ_7
    subst qσ_7
    obtain ⟨ox_9, ix_9⟩ := pσ_7
    refine lv_if_ne (tgt := 16) hx hb dX12_force_10 (by decide) (fun c_10 => ?_) (fun c_10 => ?_)
    · skip
      have uc_10 := i_ne (n := 0) (by decide) c_10
      refine lv_aload_n hx hb dX12_force_16 rfl (lv_at hl 0 rfl) ?_
      refine t_gv hx hb hts hown hK hB mh0 th0 fi_12_21 rfl mw_5_237 dX12_force_17 ?_
      refine lv_istore_n (lv' := [(2, .int (σ h0 21)), (0, .ref h0), (1, .int p1)]) hx hb dX12_force_20 rfl hl (by decide) rfl (fun ls hl => ?_)
      refine lv_aload_n hx hb dX12_force_21 rfl (lv_at hl 1 rfl) ?_
      refine lv_iload_n hx hb dX12_force_22 rfl (lv_at hl 2 rfl) ?_
      refine t_pi hx hb hts hown hK hLA hB hS mh0 th0 fi_12_21 rfl rfl rfl (by first | omega | (subst_vars; omega)) (by first | omega | (subst_vars; omega)) (Or.inl (by decide)) mw_5_237 dX12_force_23 (fun H locs σ_11 eσ_11 hB hS => ?_)
      have k_12 : σ_11 h0 21 = p1 := by rw [eσ_11]; exact up2_same _ _ _ _
      refine lv_iload_n hx hb dX12_force_26 rfl (lv_at hl 0 rfl) ?_
      have k_13 : σ_11 h0 2 = (σ h0 2) := by rw [eσ_11, up2_nej _ _ (by decide)]
      exact W.iret (v := (σ h0 21)) hx hb hr (fun t ht hW => ⟨⟨(σ h0 21), (σ_11, ρ_8), rfl, ⟨hB.2.1, hB.2.2, (show (σ_11 h0 21).toInt < (σ_11 h0 2).toInt from (by rw [k_12, k_13]; (first | omega | (rw [show ((-1) : Int32).toInt = -1 from by decide]; omega))))⟩, (show TP D cA L T r σ_11 ρ_8 t.heap from by rw [ht]; exact hB.1)⟩, hS.F ht⟩) hS.2.2 dX12_force_27
    · skip
      have uc_10 := i_eq (n := 0) (by decide) c_10
      refine lv_bipush (v := (-2)) hx hb dX12_force_13 (by decide) ?_
      exact W.iret (v := (-2)) hx hb hr (fun t ht hW => ⟨⟨(-2), (σ, ρ_8), rfl, ⟨hB.2.1, hB.2.2, (show (σ h0 21).toInt < (σ h0 2).toInt from (by (first | omega | (rw [show ((-1) : Int32).toInt = -1 from by decide]; omega))))⟩, (show TP D cA L T r σ ρ_8 t.heap from by rw [ht]; exact hB.1)⟩, hS.F ht⟩) hS.2.2 dX12_force_15
set_option maxHeartbeats 4000000 in
set_option maxRecDepth 100000 in
theorem cz_X12_in_0_3 (l : Launch) (D : va_G) (cA : Nat → ClassId) (L : List Nat) (T : Nat → Nat) (r : Rg) (hG : GR L T r) (hL : L.Nodup) (σ : Sg) (ρ : Lg) (hW : WT L ry T σ) (sz : Nat) (p1 : Int32) : Met l yX12_in (.code yX12_in cX12_in 6 (some .boolean) :: wsA) ({ frames := 0, cells := 0, slots := 0, locals := 0 }) (PR D cA L T r σ ρ sz [.long p1.toInt64, .long 0, .long 3]) (QI D cA L T r ry ([] : List (Nat × Nat)) σ sz (fun x σ1 => ((x.toInt = 0 ∨ x.toInt = 1) ∧ (x.toInt = 1 ↔ 0 ≤ p1.toInt ∧ p1.toInt ≤ 3)))) 0 0 (dm L sz) := by
  refine Met.ofW (cc := cX12_in) (maxL := 6) (ret := (some .boolean)) (by decide) rfl ?_
  intro p e s m args below meth c s₁ B hml hv
  obtain ⟨rfl, hsz, hP, hK, hN⟩ := hv
  have hx := B.exec
  have hb := B.bytes
  have hr := B.returns
  have hts : ∀ w ∈ wsA, w.before _ s = true := fun w h => atoms_spec (ws := .code yX12_in cX12_in 6 (some .boolean) :: wsA) B.pre w (List.mem_cons_of_mem _ h)
  have hown : s.vm.findClass RX12 = some m.cls := findClass_of_methodNamed B.named
  subst hsz
  have hLA : LA (dm L s.heap.size) L := ⟨hL, fun a h => Or.inl h⟩
  have hA : ∀ q : Nat, s.heap.size ≤ q → dm L s.heap.size q := fun q h => Or.inr h
  have hS : va_S (dm L s.heap.size) s.heap s.heap [] := va_S.rf
  have hB : TS D cA L T r ry ([] : List (Nat × Nat)) σ σ ρ s.heap := ⟨hP, hW, FR.rf⟩
  have hl := lv_entry ([.long p1.toInt64, .long 0, .long 3]) (n := 6) (Nat.le_of_ble_eq_true rfl)
  rw [lg_entry_eq]
  generalize (lg_sl ([.long p1.toInt64, .long 0, .long 3]) ++ List.replicate (6 - (lg_sl ([.long p1.toInt64, .long 0, .long 3])).length) Slot.unset).toArray = ls at hl ⊢
  have hl : lv_has ls 6 [(0, .long p1.toInt64), (2, .long 0), (4, .long 3)] := hl
  refine lv_lload_n hx hb dX12_in_0 rfl (lv_at hl 0 rfl) ?_
  refine lv_lload_n hx hb dX12_in_1 rfl (lv_at hl 1 rfl) ?_
  refine W.lcmp hx hb dX12_in_2 ?_
  refine lv_if_lt (tgt := 17) hx hb dX12_in_3 (by decide) (fun c_1 => ?_) (fun c_1 => ?_)
  · skip
    have uc_1 := l_lt (l_i p1) (by decide : (0 : Int64).toInt = 0) ((lg_cmp_lt _ _).mp c_1)
    refine lv_iconst (v := 0) hx hb dX12_in_17 (by decide) ?_
    exact W.zret (v := 0) hx hb hr rfl (fun t ht hW => ⟨⟨0, (σ, ρ), rfl, ⟨hB.2.1, hB.2.2, (show ((0 : Int32).toInt = 0 ∨ (0 : Int32).toInt = 1) ∧ ((0 : Int32).toInt = 1 ↔ 0 ≤ p1.toInt ∧ p1.toInt ≤ 3) from ⟨Or.inl (by decide), ⟨fun h => absurd h (by decide), fun h => by exfalso; omega⟩⟩)⟩, (show TP D cA L T r σ ρ t.heap from by rw [ht]; exact hB.1)⟩, hS.F ht⟩) hS.2.2 dX12_in_18
  · skip
    have uc_1 := l_nlt (l_i p1) (by decide : (0 : Int64).toInt = 0) (mt (lg_cmp_lt _ _).mpr c_1)
    refine lv_lload_n hx hb dX12_in_6 rfl (lv_at hl 0 rfl) ?_
    refine lv_lload hx hb dX12_in_7 (lv_at hl 2 rfl) ?_
    refine W.lcmp hx hb dX12_in_9 ?_
    refine lv_if_gt (tgt := 17) hx hb dX12_in_10 (by decide) (fun c_2 => ?_) (fun c_2 => ?_)
    · skip
      have uc_2 := l_lt (by decide : (3 : Int64).toInt = 3) (l_i p1) ((lg_cmp_gt _ _).mp c_2)
      refine lv_iconst (v := 0) hx hb dX12_in_17 (by decide) ?_
      exact W.zret (v := 0) hx hb hr rfl (fun t ht hW => ⟨⟨0, (σ, ρ), rfl, ⟨hB.2.1, hB.2.2, (show ((0 : Int32).toInt = 0 ∨ (0 : Int32).toInt = 1) ∧ ((0 : Int32).toInt = 1 ↔ 0 ≤ p1.toInt ∧ p1.toInt ≤ 3) from ⟨Or.inl (by decide), ⟨fun h => absurd h (by decide), fun h => by exfalso; omega⟩⟩)⟩, (show TP D cA L T r σ ρ t.heap from by rw [ht]; exact hB.1)⟩, hS.F ht⟩) hS.2.2 dX12_in_18
    · skip
      have uc_2 := l_nlt (by decide : (3 : Int64).toInt = 3) (l_i p1) (mt (lg_cmp_gt _ _).mpr c_2)
      refine lv_iconst (v := 1) hx hb dX12_in_13 (by decide) ?_
      refine lv_goto (tgt := 18) hx hb dX12_in_14 (by decide) ?_
      exact W.zret (v := 1) hx hb hr rfl (fun t ht hW => ⟨⟨1, (σ, ρ), rfl, ⟨hB.2.1, hB.2.2, (show ((1 : Int32).toInt = 0 ∨ (1 : Int32).toInt = 1) ∧ ((1 : Int32).toInt = 1 ↔ 0 ≤ p1.toInt ∧ p1.toInt ≤ 3) from ⟨Or.inr (by decide), ⟨fun _ => by omega, fun _ => by decide⟩⟩)⟩, (show TP D cA L T r σ ρ t.heap from by rw [ht]; exact hB.1)⟩, hS.F ht⟩) hS.2.2 dX12_in_18
set_option maxHeartbeats 4000000 in
set_option maxRecDepth 100000 in
theorem cz_X12_image (l : Launch) (D : va_G) (cA : Nat → ClassId) (L : List Nat) (T : Nat → Nat) (r : Rg) (hG : GR L T r) (hL : L.Nodup) (σ : Sg) (ρ : Lg) (hW : WT L ry T σ) (sz : Nat) (h0 : Nat) (mh0 : h0 ∈ L) (th0 : T h0 = 12) (p1 : Int32) (bx : Nat) (hbx : r h0 42 = some bx) (mbx : bx ∈ L) (tbx : T bx = 84) (bi : Nat) (hbi : r h0 43 = some bi) (mbi : bi ∈ L) (tbi : T bi = 85) (bf : Nat) (hbf : r h0 41 = some bf) (mbf : bf ∈ L) (tbf : T bf = 83) : Met l yX12_image (.code yX12_image cX12_image 3 (some .int) :: wsA) ({ frames := 1, cells := 0, slots := 0, locals := 25 }) (PR D cA L T r σ ρ sz [.ref h0, .int p1]) (QI D cA L T r ry [(82, 1000), (83, 1000), (84, 1000), (85, 1000)] σ sz (fun x σ1 => ((p1.toInt = 0 → σ1 bx 0 = σ h0 22 ∧ σ1 bi 0 = 1 ∧ σ1 bf 0 = σ h0 21) ∧ (¬ p1.toInt = 0 → σ1 bx 0 = σ bx 0 ∧ σ1 bi 0 = σ bi 0 ∧ σ1 bf 0 = σ bf 0)) ∧ ((p1.toInt = 1 → σ1 bx 1 = σ h0 22 ∧ σ1 bi 1 = 1 ∧ σ1 bf 1 = σ h0 21) ∧ (¬ p1.toInt = 1 → σ1 bx 1 = σ bx 1 ∧ σ1 bi 1 = σ bi 1 ∧ σ1 bf 1 = σ bf 1)) ∧ ((p1.toInt = 2 → σ1 bx 2 = σ h0 22 ∧ σ1 bi 2 = 1 ∧ σ1 bf 2 = σ h0 21) ∧ (¬ p1.toInt = 2 → σ1 bx 2 = σ bx 2 ∧ σ1 bi 2 = σ bi 2 ∧ σ1 bf 2 = σ bf 2)) ∧ ((p1.toInt = 3 → σ1 bx 3 = σ h0 22 ∧ σ1 bi 3 = 1 ∧ σ1 bf 3 = σ h0 21) ∧ (¬ p1.toInt = 3 → σ1 bx 3 = σ bx 3 ∧ σ1 bi 3 = σ bi 3 ∧ σ1 bf 3 = σ bf 3)))) 0 0 (dm L sz) := by
  refine Met.ofW (cc := cX12_image) (maxL := 3) (ret := (some .int)) (by decide) rfl ?_
  intro p e s m args below meth c s₁ B hml hv
  obtain ⟨rfl, hsz, hP, hK, hN⟩ := hv
  have hx := B.exec
  have hb := B.bytes
  have hr := B.returns
  have hts : ∀ w ∈ wsA, w.before _ s = true := fun w h => atoms_spec (ws := .code yX12_image cX12_image 3 (some .int) :: wsA) B.pre w (List.mem_cons_of_mem _ h)
  have hown : s.vm.findClass RX12 = some m.cls := findClass_of_methodNamed B.named
  subst hsz
  have hLA : LA (dm L s.heap.size) L := ⟨hL, fun a h => Or.inl h⟩
  have hA : ∀ q : Nat, s.heap.size ≤ q → dm L s.heap.size q := fun q h => Or.inr h
  have hS : va_S (dm L s.heap.size) s.heap s.heap [] := va_S.rf
  have hB : TS D cA L T r ry [(82, 1000), (83, 1000), (84, 1000), (85, 1000)] σ σ ρ s.heap := ⟨hP, hW, FR.rf⟩
  have hl := lv_entry ([.ref h0, .int p1]) (n := 3) (Nat.le_of_ble_eq_true rfl)
  rw [lg_entry_eq]
  generalize (lg_sl ([.ref h0, .int p1]) ++ List.replicate (3 - (lg_sl ([.ref h0, .int p1])).length) Slot.unset).toArray = ls at hl ⊢
  have hl : lv_has ls 3 [(0, .ref h0), (1, .int p1)] := hl
  have w_1 : (-2147483648) ≤ (σ bx 0).toInt ∧ (σ bx 0).toInt ≤ 2147483647 := by have z := hB.2.1 bx mbx 0; rw [tbx] at z; exact z
  have w_2 : 0 ≤ (σ bi 0).toInt ∧ (σ bi 0).toInt ≤ 1 := by have z := hB.2.1 bi mbi 0; rw [tbi] at z; exact z
  have w_3 : (-1) ≤ (σ bf 0).toInt ∧ (σ bf 0).toInt ≤ 5 := by have z := hB.2.1 bf mbf 0; rw [tbf] at z; exact z
  have w_4 : (-2147483648) ≤ (σ bx 1).toInt ∧ (σ bx 1).toInt ≤ 2147483647 := by have z := hB.2.1 bx mbx 1; rw [tbx] at z; exact z
  have w_5 : 0 ≤ (σ bi 1).toInt ∧ (σ bi 1).toInt ≤ 1 := by have z := hB.2.1 bi mbi 1; rw [tbi] at z; exact z
  have w_6 : (-1) ≤ (σ bf 1).toInt ∧ (σ bf 1).toInt ≤ 5 := by have z := hB.2.1 bf mbf 1; rw [tbf] at z; exact z
  have w_7 : (-2147483648) ≤ (σ bx 2).toInt ∧ (σ bx 2).toInt ≤ 2147483647 := by have z := hB.2.1 bx mbx 2; rw [tbx] at z; exact z
  have w_8 : 0 ≤ (σ bi 2).toInt ∧ (σ bi 2).toInt ≤ 1 := by have z := hB.2.1 bi mbi 2; rw [tbi] at z; exact z
  have w_9 : (-1) ≤ (σ bf 2).toInt ∧ (σ bf 2).toInt ≤ 5 := by have z := hB.2.1 bf mbf 2; rw [tbf] at z; exact z
  have w_10 : (-2147483648) ≤ (σ bx 3).toInt ∧ (σ bx 3).toInt ≤ 2147483647 := by have z := hB.2.1 bx mbx 3; rw [tbx] at z; exact z
  have w_11 : 0 ≤ (σ bi 3).toInt ∧ (σ bi 3).toInt ≤ 1 := by have z := hB.2.1 bi mbi 3; rw [tbi] at z; exact z
  have w_12 : (-1) ≤ (σ bf 3).toInt ∧ (σ bf 3).toInt ≤ 5 := by have z := hB.2.1 bf mbf 3; rw [tbf] at z; exact z
  have w_13 : (-2147483648) ≤ (σ h0 22).toInt ∧ (σ h0 22).toInt ≤ 2147483647 := by have z := hB.2.1 h0 mh0 22; rw [th0] at z; exact z
  have w_14 : (-1) ≤ (σ h0 21).toInt ∧ (σ h0 21).toInt ≤ 5 := by have z := hB.2.1 h0 mh0 21; rw [th0] at z; exact z
  refine lv_iload_n hx hb dX12_image_0 rfl (lv_at hl 1 rfl) ?_
  refine lv_i2l (v := p1.toInt64) hx hb dX12_image_1 rfl ?_
  refine lv_lconst (v := 0) hx hb dX12_image_2 (by decide) ?_
  refine lv_ldc2 (v := 3) hx hb hown (hts _ mw_8_138) dX12_image_3 ?_
  refine t_ci (va_runS (As := [.long p1.toInt64, .long 0, .long 3]) (rest := []) ⟨hx, hb, hml, hown, hts⟩ (cz_X12_in_0_3 l D cA L T r hG hLA.1 σ ρ hB.2.1 _ p1) (cS hts ms_X12_in mw_6_185 rfl rfl ⟨Nat.le_of_ble_eq_true rfl, Nat.le_of_ble_eq_true rfl⟩) (pS hB.1 hK hN) rfl rfl hl.1 rfl (lv_room (Nat.le_of_ble_eq_true rfl)) dX12_image_6 ⟨Nat.le_of_ble_eq_true rfl, Nat.le_of_ble_eq_true rfl⟩) hLA hA hB hS (by decide) (fun x_17 σ_15 ρ_16 H locs hB fσ_15 pσ_15 hS => ?_)
  have qσ_15 := FR.nil fσ_15
  subst qσ_15
  obtain ⟨ox_17, ix_17⟩ := pσ_15
  refine lv_if_ne (tgt := 14) hx hb dX12_image_9 (by decide) (fun c_18 => ?_) (fun c_18 => ?_)
  · skip
    have uc_18 := i_ne (n := 0) (by decide) c_18
    rcases (show p1.toInt = 0 ∨ p1.toInt = 1 ∨ p1.toInt = 2 ∨ p1.toInt = 3 by omega) with c_19j | c_19j | c_19j | c_19j
    · skip
      have c_19x : p1 = 0 := i_is (by decide) c_19j
      subst c_19x
      refine lv_aload_n hx hb dX12_image_14 rfl (lv_at hl 0 rfl) ?_
      refine t_gk hx hb hts hown hK hB mh0 th0 fq_12_43 hbi mw_6_19 dX12_image_15 ?_
      refine lv_iload_n hx hb dX12_image_18 rfl (lv_at hl 1 rfl) ?_
      refine lv_iconst (v := 1) hx hb dX12_image_19 (by decide) ?_
      refine t_sz hx hb hK hLA hB hS mbi tbi ai_85 (i_in (by decide) (by decide)) (show 0 ≤ (1 : Int32).toInt by decide) (show (1 : Int32).toInt ≤ 1 by decide) (Or.inr (by decide)) dX12_image_20 (fun H locs σ_20 eσ_20 hB hS => ?_)
      have k_21 : σ_20 bi 0 = 1 := by rw [eσ_20]; exact (up2_same _ _ _ _).trans (by decide)
      refine lv_aload_n hx hb dX12_image_21 rfl (lv_at hl 0 rfl) ?_
      refine t_gk hx hb hts hown hK hB mh0 th0 fq_12_41 hbf mw_6_17 dX12_image_22 ?_
      refine lv_iload_n hx hb dX12_image_25 rfl (lv_at hl 1 rfl) ?_
      refine lv_aload_n hx hb dX12_image_26 rfl (lv_at hl 0 rfl) ?_
      have k_22 : σ_20 h0 21 = (σ h0 21) := by rw [eσ_20, up2_nej _ _ (by decide)]
      refine t_gv hx hb hts hown hK hB mh0 th0 fi_12_21 k_22 mw_5_237 dX12_image_27 ?_
      refine t_si hx hb hK hLA hB hS mbf tbf ai_83 (i_in (by decide) (by decide)) (by show (-1) ≤ _; (first | omega | (subst_vars; omega))) (by show _ ≤ 5; (first | omega | (subst_vars; omega))) (Or.inr (by decide)) dX12_image_30 (fun H locs σ_23 eσ_23 hB hS => ?_)
      have k_24 : σ_23 bf 0 = (σ h0 21) := by rw [eσ_23]; exact up2_same _ _ _ _
      refine lv_aload_n hx hb dX12_image_31 rfl (lv_at hl 0 rfl) ?_
      refine t_gk hx hb hts hown hK hB mh0 th0 fq_12_42 hbx mw_6_18 dX12_image_32 ?_
      refine lv_iload_n hx hb dX12_image_35 rfl (lv_at hl 1 rfl) ?_
      refine lv_aload_n hx hb dX12_image_36 rfl (lv_at hl 0 rfl) ?_
      have k_25 : σ_20 h0 22 = (σ h0 22) := by rw [eσ_20, up2_nej _ _ (by decide)]
      have k_26 : σ_23 h0 22 = (σ h0 22) := by rw [eσ_23, up2_nej _ _ (by decide)]; exact k_25
      refine t_gv hx hb hts hown hK hB mh0 th0 fi_12_22 k_26 mw_5_238 dX12_image_37 ?_
      refine t_si hx hb hK hLA hB hS mbx tbx ai_84 (i_in (by decide) (by decide)) (i_lo _) (i_hi _) (Or.inr (by decide)) dX12_image_40 (fun H locs σ_27 eσ_27 hB hS => ?_)
      have k_28 : σ_27 bx 0 = (σ h0 22) := by rw [eσ_27]; exact up2_same _ _ _ _
      refine lv_iconst (v := 0) hx hb dX12_image_41 (by decide) ?_
      refine lv_istore_n (lv' := [(2, .int 0), (0, .ref h0), (1, .int 0)]) hx hb dX12_image_42 rfl hl (by decide) rfl (fun ls hl => ?_)
      have k_29 : σ_20 bx 1 = (σ bx 1) := by rw [eσ_20, up2_nej _ _ (by decide)]
      have k_30 : σ_23 bx 1 = (σ bx 1) := by rw [eσ_23, up2_nej _ _ (by decide)]; exact k_29
      have k_31 : σ_27 bx 1 = (σ bx 1) := by rw [eσ_27, up2_nej _ _ (by decide)]; exact k_30
      have k_32 : σ_20 bi 1 = (σ bi 1) := by rw [eσ_20, up2_nej _ _ (by decide)]
      have k_33 : σ_23 bi 1 = (σ bi 1) := by rw [eσ_23, up2_nej _ _ (by decide)]; exact k_32
      have k_34 : σ_27 bi 1 = (σ bi 1) := by rw [eσ_27, up2_nej _ _ (by decide)]; exact k_33
      have k_35 : σ_20 bf 1 = (σ bf 1) := by rw [eσ_20, up2_nej _ _ (by decide)]
      have k_36 : σ_23 bf 1 = (σ bf 1) := by rw [eσ_23, up2_nej _ _ (by decide)]; exact k_35
      have k_37 : σ_27 bf 1 = (σ bf 1) := by rw [eσ_27, up2_nej _ _ (by decide)]; exact k_36
      have k_38 : σ_20 bx 2 = (σ bx 2) := by rw [eσ_20, up2_nej _ _ (by decide)]
      have k_39 : σ_23 bx 2 = (σ bx 2) := by rw [eσ_23, up2_nej _ _ (by decide)]; exact k_38
      have k_40 : σ_27 bx 2 = (σ bx 2) := by rw [eσ_27, up2_nej _ _ (by decide)]; exact k_39
      have k_41 : σ_20 bi 2 = (σ bi 2) := by rw [eσ_20, up2_nej _ _ (by decide)]
      have k_42 : σ_23 bi 2 = (σ bi 2) := by rw [eσ_23, up2_nej _ _ (by decide)]; exact k_41
      have k_43 : σ_27 bi 2 = (σ bi 2) := by rw [eσ_27, up2_nej _ _ (by decide)]; exact k_42
      have k_44 : σ_20 bf 2 = (σ bf 2) := by rw [eσ_20, up2_nej _ _ (by decide)]
      have k_45 : σ_23 bf 2 = (σ bf 2) := by rw [eσ_23, up2_nej _ _ (by decide)]; exact k_44
      have k_46 : σ_27 bf 2 = (σ bf 2) := by rw [eσ_27, up2_nej _ _ (by decide)]; exact k_45
      have k_47 : σ_20 bx 3 = (σ bx 3) := by rw [eσ_20, up2_nej _ _ (by decide)]
      have k_48 : σ_23 bx 3 = (σ bx 3) := by rw [eσ_23, up2_nej _ _ (by decide)]; exact k_47
      have k_49 : σ_27 bx 3 = (σ bx 3) := by rw [eσ_27, up2_nej _ _ (by decide)]; exact k_48
      have k_50 : σ_20 bi 3 = (σ bi 3) := by rw [eσ_20, up2_nej _ _ (by decide)]
      have k_51 : σ_23 bi 3 = (σ bi 3) := by rw [eσ_23, up2_nej _ _ (by decide)]; exact k_50
      have k_52 : σ_27 bi 3 = (σ bi 3) := by rw [eσ_27, up2_nej _ _ (by decide)]; exact k_51
      have k_53 : σ_20 bf 3 = (σ bf 3) := by rw [eσ_20, up2_nej _ _ (by decide)]
      have k_54 : σ_23 bf 3 = (σ bf 3) := by rw [eσ_23, up2_nej _ _ (by decide)]; exact k_53
      have k_55 : σ_27 bf 3 = (σ bf 3) := by rw [eσ_27, up2_nej _ _ (by decide)]; exact k_54
      have k_56 : σ_27 h0 22 = (σ h0 22) := by rw [eσ_27, up2_nej _ _ (by decide)]; exact k_26
      have k_57 : σ_23 h0 21 = (σ h0 21) := by rw [eσ_23, up2_nej _ _ (by decide)]; exact k_22
      have k_58 : σ_27 h0 21 = (σ h0 21) := by rw [eσ_27, up2_nej _ _ (by decide)]; exact k_57
      have k_59 : σ_23 bi 0 = 1 := by rw [eσ_23, up2_nea _ _ (tg_ne tbi tbf (by decide))]; exact k_21
      have k_60 : σ_27 bi 0 = 1 := by rw [eσ_27, up2_nea _ _ (tg_ne tbi tbx (by decide))]; exact k_59
      have k_61 : σ_27 bf 0 = (σ h0 21) := by rw [eσ_27, up2_nea _ _ (tg_ne tbf tbx (by decide))]; exact k_24
      refine w_loop (α := Int32 × Sg × Lg) (fun (i_62, σ_63, ρ_64) H locs ls => 0 ≤ i_62.toInt ∧ i_62.toInt ≤ 201 ∧ σ_63 bx 1 = (σ bx 1) ∧ σ_63 bi 1 = (σ bi 1) ∧ σ_63 bf 1 = (σ bf 1) ∧ σ_63 bx 2 = (σ bx 2) ∧ σ_63 bi 2 = (σ bi 2) ∧ σ_63 bf 2 = (σ bf 2) ∧ σ_63 bx 3 = (σ bx 3) ∧ σ_63 bi 3 = (σ bi 3) ∧ σ_63 bf 3 = (σ bf 3) ∧ σ_63 h0 22 = (σ h0 22) ∧ σ_63 h0 21 = (σ h0 21) ∧ σ_63 bi 0 = 1 ∧ σ_63 bf 0 = (σ h0 21) ∧ σ_63 bx 0 = (σ h0 22) ∧ TS D cA L T r ry [(82, 1000), (83, 1000), (84, 1000), (85, 1000)] σ σ_63 ρ_64 H ∧ va_S (dm L s.heap.size) s.heap H locs ∧ lv_has ls 3 [(2, .int i_62), (0, .ref h0), (1, .int 0)]) (fun (i_62, σ_63, ρ_64) => (201 - i_62.toInt).toNat) ?_ ⟨0, σ_27, ρ_16⟩ ⟨(by decide), (by decide), k_31, k_34, k_37, k_40, k_43, k_46, k_49, k_52, k_55, k_56, k_58, k_60, k_61, k_28, hB, hS, lv_sub hl [0, 1, 2] rfl⟩
      rintro ⟨i_62, σ_63, ρ_64⟩ H locs ls ⟨li_62, ui_62, k_66, k_67, k_68, k_69, k_70, k_71, k_72, k_73, k_74, k_75, k_76, k_77, k_78, k_79, hB, hS, hl⟩ ih_65
      refine lv_iload_n hx hb dX12_image_43 rfl (lv_at hl 0 rfl) ?_
      refine lv_sipush (v := 201) hx hb dX12_image_44 (by decide) ?_
      refine lv_icmp_ge (tgt := 74) hx hb dX12_image_47 (by decide) (fun c_80 => ?_) (fun c_80 => ?_)
      · skip
        have uc_80 := i_ge (n := 201) (by decide) c_80
        refine lv_aload_n hx hb dX12_image_74 rfl (lv_at hl 1 rfl) ?_
        refine t_gr hx hb hts hown hK hG hB mh0 th0 fq_12_20 rfl mw_5_236 dX12_image_75 (fun b_81 hb_81 mb_81 tb_81 => ?_)
        refine lv_iconst (v := 4) hx hb dX12_image_78 (by decide) ?_
        refine t_aj hx hb hK hB mb_81 tb_81 ai_70 (i_in (by decide) (by decide)) dX12_image_79 (fun x_82 ex_82 lx_82 ux_82 => ?_)
        have ax_82 := lx_82
        have bx_82 := ux_82
        have lx_82 : (-2147483648) ≤ x_82.toInt := lx_82
        have ux_82 : x_82.toInt ≤ 2147483647 := ux_82
        have cx_82 := congrArg Int32.toInt ex_82
        exact W.iret (v := x_82) hx hb hr (fun t ht hW => ⟨⟨x_82, (σ_63, ρ_64), rfl, ⟨hB.2.1, hB.2.2, ⟨(show ((0 : Int32).toInt = 0 → σ_63 bx 0 = σ h0 22 ∧ σ_63 bi 0 = 1 ∧ σ_63 bf 0 = σ h0 21) ∧ (¬ (0 : Int32).toInt = 0 → σ_63 bx 0 = σ bx 0 ∧ σ_63 bi 0 = σ bi 0 ∧ σ_63 bf 0 = σ bf 0) from ⟨fun _ => ⟨k_79, k_77, k_78⟩, fun h => absurd (by decide) h⟩), (show ((0 : Int32).toInt = 1 → σ_63 bx 1 = σ h0 22 ∧ σ_63 bi 1 = 1 ∧ σ_63 bf 1 = σ h0 21) ∧ (¬ (0 : Int32).toInt = 1 → σ_63 bx 1 = σ bx 1 ∧ σ_63 bi 1 = σ bi 1 ∧ σ_63 bf 1 = σ bf 1) from ⟨fun h => absurd h (by decide), fun _ => ⟨k_66, k_67, k_68⟩⟩), (show ((0 : Int32).toInt = 2 → σ_63 bx 2 = σ h0 22 ∧ σ_63 bi 2 = 1 ∧ σ_63 bf 2 = σ h0 21) ∧ (¬ (0 : Int32).toInt = 2 → σ_63 bx 2 = σ bx 2 ∧ σ_63 bi 2 = σ bi 2 ∧ σ_63 bf 2 = σ bf 2) from ⟨fun h => absurd h (by decide), fun _ => ⟨k_69, k_70, k_71⟩⟩), (show ((0 : Int32).toInt = 3 → σ_63 bx 3 = σ h0 22 ∧ σ_63 bi 3 = 1 ∧ σ_63 bf 3 = σ h0 21) ∧ (¬ (0 : Int32).toInt = 3 → σ_63 bx 3 = σ bx 3 ∧ σ_63 bi 3 = σ bi 3 ∧ σ_63 bf 3 = σ bf 3) from ⟨fun h => absurd h (by decide), fun _ => ⟨k_72, k_73, k_74⟩⟩)⟩⟩, (show TP D cA L T r σ_63 ρ_64 t.heap from by rw [ht]; exact hB.1)⟩, hS.F ht⟩) hS.2.2 dX12_image_80
      · skip
        have uc_80 := i_nge (n := 201) (by decide) c_80
        refine lv_aload_n hx hb dX12_image_50 rfl (lv_at hl 1 rfl) ?_
        refine t_gr hx hb hts hown hK hG hB mh0 th0 fq_12_40 rfl mw_6_16 dX12_image_51 (fun b_83 hb_83 mb_83 tb_83 => ?_)
        refine lv_sipush (v := 201) hx hb dX12_image_54 (by decide) ?_
        refine lv_iload_n hx hb dX12_image_57 rfl (lv_at hl 2 rfl) ?_
        refine lv_imul hx hb dX12_image_58 ?_
        refine tp_i (w := 0) (by decide) ?_
        refine lv_iload_n hx hb dX12_image_59 rfl (lv_at hl 0 rfl) ?_
        refine lv_iadd hx hb dX12_image_60 ?_
        refine lv_topi (fun x_84 ex_84 => ?_)
        have vx_84 := b_add (by decide : (0 : Int32).toInt = 0) (rfl : i_62.toInt = _) ex_84 (by omega) (by omega)
        refine lv_aload_n hx hb dX12_image_61 rfl (lv_at hl 1 rfl) ?_
        refine t_gr hx hb hts hown hK hG hB mh0 th0 fq_12_20 rfl mw_5_236 dX12_image_62 (fun b_85 hb_85 mb_85 tb_85 => ?_)
        refine lv_iload_n hx hb dX12_image_65 rfl (lv_at hl 0 rfl) ?_
        refine t_aj hx hb hK hB mb_85 tb_85 ai_70 (i_in (by omega) (by omega)) dX12_image_66 (fun x_86 ex_86 lx_86 ux_86 => ?_)
        have ax_86 := lx_86
        have bx_86 := ux_86
        clear lx_86 ux_86
        have cx_86 := congrArg Int32.toInt ex_86
        refine t_si hx hb hK hLA hB hS mb_83 tb_83 ai_82 (i_in (by omega) (by omega)) (show (sb ((x_84 : Int32).toNatClampNeg % 201)).1 ≤ _ by rw [(show (x_84 : Int32).toNatClampNeg % 201 = (i_62 : Int32).toNatClampNeg by have hn0 : (x_84 : Int32).toNatClampNeg = x_84.toInt.toNat := rfl; have hn1 : (i_62 : Int32).toNatClampNeg = i_62.toInt.toNat := rfl; omega)]; exact ax_86) (show _ ≤ (sb ((x_84 : Int32).toNatClampNeg % 201)).2 by rw [(show (x_84 : Int32).toNatClampNeg % 201 = (i_62 : Int32).toNatClampNeg by have hn0 : (x_84 : Int32).toNatClampNeg = x_84.toInt.toNat := rfl; have hn1 : (i_62 : Int32).toNatClampNeg = i_62.toInt.toNat := rfl; omega)]; exact bx_86) (Or.inr (by decide)) dX12_image_67 (fun H locs σ_87 eσ_87 hB hS => ?_)
        have k_88 : σ_87 b_83 x_84.toNatClampNeg = x_86 := by rw [eσ_87]; exact up2_same _ _ _ _
        obtain ⟨x_89, ex_89⟩ : ∃ y : Int32, y = i_62 + 1 := ⟨_, rfl⟩
        have vx_89 := b_add (rfl : i_62.toInt = _) (by decide : (1 : Int32).toInt = 1) ex_89 (by omega) (by omega)
        refine lv_iinc (v := x_89) (lv' := [(2, .int x_89), (0, .ref h0), (1, .int 0)]) hx hb dX12_image_68 hl (k := 0) rfl (by rw [ex_89]; rfl) (by decide) rfl (fun ls hl => ?_)
        refine lv_goto (tgt := 43) hx hb dX12_image_71 (by decide) ?_
        have k_90 : σ_87 bx 1 = (σ bx 1) := by rw [eσ_87, up2_nea _ _ (tg_ne tbx tb_83 (by decide))]; exact k_66
        have k_91 : σ_87 bi 1 = (σ bi 1) := by rw [eσ_87, up2_nea _ _ (tg_ne tbi tb_83 (by decide))]; exact k_67
        have k_92 : σ_87 bf 1 = (σ bf 1) := by rw [eσ_87, up2_nea _ _ (tg_ne tbf tb_83 (by decide))]; exact k_68
        have k_93 : σ_87 bx 2 = (σ bx 2) := by rw [eσ_87, up2_nea _ _ (tg_ne tbx tb_83 (by decide))]; exact k_69
        have k_94 : σ_87 bi 2 = (σ bi 2) := by rw [eσ_87, up2_nea _ _ (tg_ne tbi tb_83 (by decide))]; exact k_70
        have k_95 : σ_87 bf 2 = (σ bf 2) := by rw [eσ_87, up2_nea _ _ (tg_ne tbf tb_83 (by decide))]; exact k_71
        have k_96 : σ_87 bx 3 = (σ bx 3) := by rw [eσ_87, up2_nea _ _ (tg_ne tbx tb_83 (by decide))]; exact k_72
        have k_97 : σ_87 bi 3 = (σ bi 3) := by rw [eσ_87, up2_nea _ _ (tg_ne tbi tb_83 (by decide))]; exact k_73
        have k_98 : σ_87 bf 3 = (σ bf 3) := by rw [eσ_87, up2_nea _ _ (tg_ne tbf tb_83 (by decide))]; exact k_74
        have k_99 : σ_87 h0 22 = (σ h0 22) := by rw [eσ_87, up2_nea _ _ (tg_ne th0 tb_83 (by decide))]; exact k_75
        have k_100 : σ_87 h0 21 = (σ h0 21) := by rw [eσ_87, up2_nea _ _ (tg_ne th0 tb_83 (by decide))]; exact k_76
        have k_101 : σ_87 bi 0 = 1 := by rw [eσ_87, up2_nea _ _ (tg_ne tbi tb_83 (by decide))]; exact k_77
        have k_102 : σ_87 bf 0 = (σ h0 21) := by rw [eσ_87, up2_nea _ _ (tg_ne tbf tb_83 (by decide))]; exact k_78
        have k_103 : σ_87 bx 0 = (σ h0 22) := by rw [eσ_87, up2_nea _ _ (tg_ne tbx tb_83 (by decide))]; exact k_79
        exact ih_65 ⟨x_89, σ_87, ρ_64⟩ _ _ _ ⟨(by omega), (by omega), k_90, k_91, k_92, k_93, k_94, k_95, k_96, k_97, k_98, k_99, k_100, k_101, k_102, k_103, hB, hS, lv_sub hl [0, 1, 2] rfl⟩ (by show (201 - x_89.toInt).toNat < (201 - i_62.toInt).toNat; omega)
    · skip
      have c_19x : p1 = 1 := i_is (by decide) c_19j
      subst c_19x
      refine lv_aload_n hx hb dX12_image_14 rfl (lv_at hl 0 rfl) ?_
      refine t_gk hx hb hts hown hK hB mh0 th0 fq_12_43 hbi mw_6_19 dX12_image_15 ?_
      refine lv_iload_n hx hb dX12_image_18 rfl (lv_at hl 1 rfl) ?_
      refine lv_iconst (v := 1) hx hb dX12_image_19 (by decide) ?_
      refine t_sz hx hb hK hLA hB hS mbi tbi ai_85 (i_in (by decide) (by decide)) (show 0 ≤ (1 : Int32).toInt by decide) (show (1 : Int32).toInt ≤ 1 by decide) (Or.inr (by decide)) dX12_image_20 (fun H locs σ_104 eσ_104 hB hS => ?_)
      have k_105 : σ_104 bi 1 = 1 := by rw [eσ_104]; exact (up2_same _ _ _ _).trans (by decide)
      refine lv_aload_n hx hb dX12_image_21 rfl (lv_at hl 0 rfl) ?_
      refine t_gk hx hb hts hown hK hB mh0 th0 fq_12_41 hbf mw_6_17 dX12_image_22 ?_
      refine lv_iload_n hx hb dX12_image_25 rfl (lv_at hl 1 rfl) ?_
      refine lv_aload_n hx hb dX12_image_26 rfl (lv_at hl 0 rfl) ?_
      have k_106 : σ_104 h0 21 = (σ h0 21) := by rw [eσ_104, up2_nej _ _ (by decide)]
      refine t_gv hx hb hts hown hK hB mh0 th0 fi_12_21 k_106 mw_5_237 dX12_image_27 ?_
      refine t_si hx hb hK hLA hB hS mbf tbf ai_83 (i_in (by decide) (by decide)) (by show (-1) ≤ _; (first | omega | (subst_vars; omega))) (by show _ ≤ 5; (first | omega | (subst_vars; omega))) (Or.inr (by decide)) dX12_image_30 (fun H locs σ_107 eσ_107 hB hS => ?_)
      have k_108 : σ_107 bf 1 = (σ h0 21) := by rw [eσ_107]; exact up2_same _ _ _ _
      refine lv_aload_n hx hb dX12_image_31 rfl (lv_at hl 0 rfl) ?_
      refine t_gk hx hb hts hown hK hB mh0 th0 fq_12_42 hbx mw_6_18 dX12_image_32 ?_
      refine lv_iload_n hx hb dX12_image_35 rfl (lv_at hl 1 rfl) ?_
      refine lv_aload_n hx hb dX12_image_36 rfl (lv_at hl 0 rfl) ?_
      have k_109 : σ_104 h0 22 = (σ h0 22) := by rw [eσ_104, up2_nej _ _ (by decide)]
      have k_110 : σ_107 h0 22 = (σ h0 22) := by rw [eσ_107, up2_nej _ _ (by decide)]; exact k_109
      refine t_gv hx hb hts hown hK hB mh0 th0 fi_12_22 k_110 mw_5_238 dX12_image_37 ?_
      refine t_si hx hb hK hLA hB hS mbx tbx ai_84 (i_in (by decide) (by decide)) (i_lo _) (i_hi _) (Or.inr (by decide)) dX12_image_40 (fun H locs σ_111 eσ_111 hB hS => ?_)
      have k_112 : σ_111 bx 1 = (σ h0 22) := by rw [eσ_111]; exact up2_same _ _ _ _
      refine lv_iconst (v := 0) hx hb dX12_image_41 (by decide) ?_
      refine lv_istore_n (lv' := [(2, .int 0), (0, .ref h0), (1, .int 1)]) hx hb dX12_image_42 rfl hl (by decide) rfl (fun ls hl => ?_)
      have k_113 : σ_104 bx 0 = (σ bx 0) := by rw [eσ_104, up2_nej _ _ (by decide)]
      have k_114 : σ_107 bx 0 = (σ bx 0) := by rw [eσ_107, up2_nej _ _ (by decide)]; exact k_113
      have k_115 : σ_111 bx 0 = (σ bx 0) := by rw [eσ_111, up2_nej _ _ (by decide)]; exact k_114
      have k_116 : σ_104 bi 0 = (σ bi 0) := by rw [eσ_104, up2_nej _ _ (by decide)]
      have k_117 : σ_107 bi 0 = (σ bi 0) := by rw [eσ_107, up2_nej _ _ (by decide)]; exact k_116
      have k_118 : σ_111 bi 0 = (σ bi 0) := by rw [eσ_111, up2_nej _ _ (by decide)]; exact k_117
      have k_119 : σ_104 bf 0 = (σ bf 0) := by rw [eσ_104, up2_nej _ _ (by decide)]
      have k_120 : σ_107 bf 0 = (σ bf 0) := by rw [eσ_107, up2_nej _ _ (by decide)]; exact k_119
      have k_121 : σ_111 bf 0 = (σ bf 0) := by rw [eσ_111, up2_nej _ _ (by decide)]; exact k_120
      have k_122 : σ_104 bx 2 = (σ bx 2) := by rw [eσ_104, up2_nej _ _ (by decide)]
      have k_123 : σ_107 bx 2 = (σ bx 2) := by rw [eσ_107, up2_nej _ _ (by decide)]; exact k_122
      have k_124 : σ_111 bx 2 = (σ bx 2) := by rw [eσ_111, up2_nej _ _ (by decide)]; exact k_123
      have k_125 : σ_104 bi 2 = (σ bi 2) := by rw [eσ_104, up2_nej _ _ (by decide)]
      have k_126 : σ_107 bi 2 = (σ bi 2) := by rw [eσ_107, up2_nej _ _ (by decide)]; exact k_125
      have k_127 : σ_111 bi 2 = (σ bi 2) := by rw [eσ_111, up2_nej _ _ (by decide)]; exact k_126
      have k_128 : σ_104 bf 2 = (σ bf 2) := by rw [eσ_104, up2_nej _ _ (by decide)]
      have k_129 : σ_107 bf 2 = (σ bf 2) := by rw [eσ_107, up2_nej _ _ (by decide)]; exact k_128
      have k_130 : σ_111 bf 2 = (σ bf 2) := by rw [eσ_111, up2_nej _ _ (by decide)]; exact k_129
      have k_131 : σ_104 bx 3 = (σ bx 3) := by rw [eσ_104, up2_nej _ _ (by decide)]
      have k_132 : σ_107 bx 3 = (σ bx 3) := by rw [eσ_107, up2_nej _ _ (by decide)]; exact k_131
      have k_133 : σ_111 bx 3 = (σ bx 3) := by rw [eσ_111, up2_nej _ _ (by decide)]; exact k_132
      have k_134 : σ_104 bi 3 = (σ bi 3) := by rw [eσ_104, up2_nej _ _ (by decide)]
      have k_135 : σ_107 bi 3 = (σ bi 3) := by rw [eσ_107, up2_nej _ _ (by decide)]; exact k_134
      have k_136 : σ_111 bi 3 = (σ bi 3) := by rw [eσ_111, up2_nej _ _ (by decide)]; exact k_135
      have k_137 : σ_104 bf 3 = (σ bf 3) := by rw [eσ_104, up2_nej _ _ (by decide)]
      have k_138 : σ_107 bf 3 = (σ bf 3) := by rw [eσ_107, up2_nej _ _ (by decide)]; exact k_137
      have k_139 : σ_111 bf 3 = (σ bf 3) := by rw [eσ_111, up2_nej _ _ (by decide)]; exact k_138
      have k_140 : σ_111 h0 22 = (σ h0 22) := by rw [eσ_111, up2_nej _ _ (by decide)]; exact k_110
      have k_141 : σ_107 h0 21 = (σ h0 21) := by rw [eσ_107, up2_nej _ _ (by decide)]; exact k_106
      have k_142 : σ_111 h0 21 = (σ h0 21) := by rw [eσ_111, up2_nej _ _ (by decide)]; exact k_141
      have k_143 : σ_107 bi 1 = 1 := by rw [eσ_107, up2_nea _ _ (tg_ne tbi tbf (by decide))]; exact k_105
      have k_144 : σ_111 bi 1 = 1 := by rw [eσ_111, up2_nea _ _ (tg_ne tbi tbx (by decide))]; exact k_143
      have k_145 : σ_111 bf 1 = (σ h0 21) := by rw [eσ_111, up2_nea _ _ (tg_ne tbf tbx (by decide))]; exact k_108
      refine w_loop (α := Int32 × Sg × Lg) (fun (i_146, σ_147, ρ_148) H locs ls => 0 ≤ i_146.toInt ∧ i_146.toInt ≤ 201 ∧ σ_147 bx 0 = (σ bx 0) ∧ σ_147 bi 0 = (σ bi 0) ∧ σ_147 bf 0 = (σ bf 0) ∧ σ_147 bx 2 = (σ bx 2) ∧ σ_147 bi 2 = (σ bi 2) ∧ σ_147 bf 2 = (σ bf 2) ∧ σ_147 bx 3 = (σ bx 3) ∧ σ_147 bi 3 = (σ bi 3) ∧ σ_147 bf 3 = (σ bf 3) ∧ σ_147 h0 22 = (σ h0 22) ∧ σ_147 h0 21 = (σ h0 21) ∧ σ_147 bi 1 = 1 ∧ σ_147 bf 1 = (σ h0 21) ∧ σ_147 bx 1 = (σ h0 22) ∧ TS D cA L T r ry [(82, 1000), (83, 1000), (84, 1000), (85, 1000)] σ σ_147 ρ_148 H ∧ va_S (dm L s.heap.size) s.heap H locs ∧ lv_has ls 3 [(2, .int i_146), (0, .ref h0), (1, .int 1)]) (fun (i_146, σ_147, ρ_148) => (201 - i_146.toInt).toNat) ?_ ⟨0, σ_111, ρ_16⟩ ⟨(by decide), (by decide), k_115, k_118, k_121, k_124, k_127, k_130, k_133, k_136, k_139, k_140, k_142, k_144, k_145, k_112, hB, hS, lv_sub hl [0, 1, 2] rfl⟩
      rintro ⟨i_146, σ_147, ρ_148⟩ H locs ls ⟨li_146, ui_146, k_150, k_151, k_152, k_153, k_154, k_155, k_156, k_157, k_158, k_159, k_160, k_161, k_162, k_163, hB, hS, hl⟩ ih_149
      refine lv_iload_n hx hb dX12_image_43 rfl (lv_at hl 0 rfl) ?_
      refine lv_sipush (v := 201) hx hb dX12_image_44 (by decide) ?_
      refine lv_icmp_ge (tgt := 74) hx hb dX12_image_47 (by decide) (fun c_164 => ?_) (fun c_164 => ?_)
      · skip
        have uc_164 := i_ge (n := 201) (by decide) c_164
        refine lv_aload_n hx hb dX12_image_74 rfl (lv_at hl 1 rfl) ?_
        refine t_gr hx hb hts hown hK hG hB mh0 th0 fq_12_20 rfl mw_5_236 dX12_image_75 (fun b_165 hb_165 mb_165 tb_165 => ?_)
        refine lv_iconst (v := 4) hx hb dX12_image_78 (by decide) ?_
        refine t_aj hx hb hK hB mb_165 tb_165 ai_70 (i_in (by decide) (by decide)) dX12_image_79 (fun x_166 ex_166 lx_166 ux_166 => ?_)
        have ax_166 := lx_166
        have bx_166 := ux_166
        have lx_166 : (-2147483648) ≤ x_166.toInt := lx_166
        have ux_166 : x_166.toInt ≤ 2147483647 := ux_166
        have cx_166 := congrArg Int32.toInt ex_166
        exact W.iret (v := x_166) hx hb hr (fun t ht hW => ⟨⟨x_166, (σ_147, ρ_148), rfl, ⟨hB.2.1, hB.2.2, ⟨(show ((1 : Int32).toInt = 0 → σ_147 bx 0 = σ h0 22 ∧ σ_147 bi 0 = 1 ∧ σ_147 bf 0 = σ h0 21) ∧ (¬ (1 : Int32).toInt = 0 → σ_147 bx 0 = σ bx 0 ∧ σ_147 bi 0 = σ bi 0 ∧ σ_147 bf 0 = σ bf 0) from ⟨fun h => absurd h (by decide), fun _ => ⟨k_150, k_151, k_152⟩⟩), (show ((1 : Int32).toInt = 1 → σ_147 bx 1 = σ h0 22 ∧ σ_147 bi 1 = 1 ∧ σ_147 bf 1 = σ h0 21) ∧ (¬ (1 : Int32).toInt = 1 → σ_147 bx 1 = σ bx 1 ∧ σ_147 bi 1 = σ bi 1 ∧ σ_147 bf 1 = σ bf 1) from ⟨fun _ => ⟨k_163, k_161, k_162⟩, fun h => absurd (by decide) h⟩), (show ((1 : Int32).toInt = 2 → σ_147 bx 2 = σ h0 22 ∧ σ_147 bi 2 = 1 ∧ σ_147 bf 2 = σ h0 21) ∧ (¬ (1 : Int32).toInt = 2 → σ_147 bx 2 = σ bx 2 ∧ σ_147 bi 2 = σ bi 2 ∧ σ_147 bf 2 = σ bf 2) from ⟨fun h => absurd h (by decide), fun _ => ⟨k_153, k_154, k_155⟩⟩), (show ((1 : Int32).toInt = 3 → σ_147 bx 3 = σ h0 22 ∧ σ_147 bi 3 = 1 ∧ σ_147 bf 3 = σ h0 21) ∧ (¬ (1 : Int32).toInt = 3 → σ_147 bx 3 = σ bx 3 ∧ σ_147 bi 3 = σ bi 3 ∧ σ_147 bf 3 = σ bf 3) from ⟨fun h => absurd h (by decide), fun _ => ⟨k_156, k_157, k_158⟩⟩)⟩⟩, (show TP D cA L T r σ_147 ρ_148 t.heap from by rw [ht]; exact hB.1)⟩, hS.F ht⟩) hS.2.2 dX12_image_80
      · skip
        have uc_164 := i_nge (n := 201) (by decide) c_164
        refine lv_aload_n hx hb dX12_image_50 rfl (lv_at hl 1 rfl) ?_
        refine t_gr hx hb hts hown hK hG hB mh0 th0 fq_12_40 rfl mw_6_16 dX12_image_51 (fun b_167 hb_167 mb_167 tb_167 => ?_)
        refine lv_sipush (v := 201) hx hb dX12_image_54 (by decide) ?_
        refine lv_iload_n hx hb dX12_image_57 rfl (lv_at hl 2 rfl) ?_
        refine lv_imul hx hb dX12_image_58 ?_
        refine tp_i (w := 201) (by decide) ?_
        refine lv_iload_n hx hb dX12_image_59 rfl (lv_at hl 0 rfl) ?_
        refine lv_iadd hx hb dX12_image_60 ?_
        refine lv_topi (fun x_168 ex_168 => ?_)
        have vx_168 := b_add (by decide : (201 : Int32).toInt = 201) (rfl : i_146.toInt = _) ex_168 (by omega) (by omega)
        refine lv_aload_n hx hb dX12_image_61 rfl (lv_at hl 1 rfl) ?_
        refine t_gr hx hb hts hown hK hG hB mh0 th0 fq_12_20 rfl mw_5_236 dX12_image_62 (fun b_169 hb_169 mb_169 tb_169 => ?_)
        refine lv_iload_n hx hb dX12_image_65 rfl (lv_at hl 0 rfl) ?_
        refine t_aj hx hb hK hB mb_169 tb_169 ai_70 (i_in (by omega) (by omega)) dX12_image_66 (fun x_170 ex_170 lx_170 ux_170 => ?_)
        have ax_170 := lx_170
        have bx_170 := ux_170
        clear lx_170 ux_170
        have cx_170 := congrArg Int32.toInt ex_170
        refine t_si hx hb hK hLA hB hS mb_167 tb_167 ai_82 (i_in (by omega) (by omega)) (show (sb ((x_168 : Int32).toNatClampNeg % 201)).1 ≤ _ by rw [(show (x_168 : Int32).toNatClampNeg % 201 = (i_146 : Int32).toNatClampNeg by have hn0 : (x_168 : Int32).toNatClampNeg = x_168.toInt.toNat := rfl; have hn1 : (i_146 : Int32).toNatClampNeg = i_146.toInt.toNat := rfl; omega)]; exact ax_170) (show _ ≤ (sb ((x_168 : Int32).toNatClampNeg % 201)).2 by rw [(show (x_168 : Int32).toNatClampNeg % 201 = (i_146 : Int32).toNatClampNeg by have hn0 : (x_168 : Int32).toNatClampNeg = x_168.toInt.toNat := rfl; have hn1 : (i_146 : Int32).toNatClampNeg = i_146.toInt.toNat := rfl; omega)]; exact bx_170) (Or.inr (by decide)) dX12_image_67 (fun H locs σ_171 eσ_171 hB hS => ?_)
        have k_172 : σ_171 b_167 x_168.toNatClampNeg = x_170 := by rw [eσ_171]; exact up2_same _ _ _ _
        obtain ⟨x_173, ex_173⟩ : ∃ y : Int32, y = i_146 + 1 := ⟨_, rfl⟩
        have vx_173 := b_add (rfl : i_146.toInt = _) (by decide : (1 : Int32).toInt = 1) ex_173 (by omega) (by omega)
        refine lv_iinc (v := x_173) (lv' := [(2, .int x_173), (0, .ref h0), (1, .int 1)]) hx hb dX12_image_68 hl (k := 0) rfl (by rw [ex_173]; rfl) (by decide) rfl (fun ls hl => ?_)
        refine lv_goto (tgt := 43) hx hb dX12_image_71 (by decide) ?_
        have k_174 : σ_171 bx 0 = (σ bx 0) := by rw [eσ_171, up2_nea _ _ (tg_ne tbx tb_167 (by decide))]; exact k_150
        have k_175 : σ_171 bi 0 = (σ bi 0) := by rw [eσ_171, up2_nea _ _ (tg_ne tbi tb_167 (by decide))]; exact k_151
        have k_176 : σ_171 bf 0 = (σ bf 0) := by rw [eσ_171, up2_nea _ _ (tg_ne tbf tb_167 (by decide))]; exact k_152
        have k_177 : σ_171 bx 2 = (σ bx 2) := by rw [eσ_171, up2_nea _ _ (tg_ne tbx tb_167 (by decide))]; exact k_153
        have k_178 : σ_171 bi 2 = (σ bi 2) := by rw [eσ_171, up2_nea _ _ (tg_ne tbi tb_167 (by decide))]; exact k_154
        have k_179 : σ_171 bf 2 = (σ bf 2) := by rw [eσ_171, up2_nea _ _ (tg_ne tbf tb_167 (by decide))]; exact k_155
        have k_180 : σ_171 bx 3 = (σ bx 3) := by rw [eσ_171, up2_nea _ _ (tg_ne tbx tb_167 (by decide))]; exact k_156
        have k_181 : σ_171 bi 3 = (σ bi 3) := by rw [eσ_171, up2_nea _ _ (tg_ne tbi tb_167 (by decide))]; exact k_157
        have k_182 : σ_171 bf 3 = (σ bf 3) := by rw [eσ_171, up2_nea _ _ (tg_ne tbf tb_167 (by decide))]; exact k_158
        have k_183 : σ_171 h0 22 = (σ h0 22) := by rw [eσ_171, up2_nea _ _ (tg_ne th0 tb_167 (by decide))]; exact k_159
        have k_184 : σ_171 h0 21 = (σ h0 21) := by rw [eσ_171, up2_nea _ _ (tg_ne th0 tb_167 (by decide))]; exact k_160
        have k_185 : σ_171 bi 1 = 1 := by rw [eσ_171, up2_nea _ _ (tg_ne tbi tb_167 (by decide))]; exact k_161
        have k_186 : σ_171 bf 1 = (σ h0 21) := by rw [eσ_171, up2_nea _ _ (tg_ne tbf tb_167 (by decide))]; exact k_162
        have k_187 : σ_171 bx 1 = (σ h0 22) := by rw [eσ_171, up2_nea _ _ (tg_ne tbx tb_167 (by decide))]; exact k_163
        exact ih_149 ⟨x_173, σ_171, ρ_148⟩ _ _ _ ⟨(by omega), (by omega), k_174, k_175, k_176, k_177, k_178, k_179, k_180, k_181, k_182, k_183, k_184, k_185, k_186, k_187, hB, hS, lv_sub hl [0, 1, 2] rfl⟩ (by show (201 - x_173.toInt).toNat < (201 - i_146.toInt).toNat; omega)
    · skip
      have c_19x : p1 = 2 := i_is (by decide) c_19j
      subst c_19x
      refine lv_aload_n hx hb dX12_image_14 rfl (lv_at hl 0 rfl) ?_
      refine t_gk hx hb hts hown hK hB mh0 th0 fq_12_43 hbi mw_6_19 dX12_image_15 ?_
      refine lv_iload_n hx hb dX12_image_18 rfl (lv_at hl 1 rfl) ?_
      refine lv_iconst (v := 1) hx hb dX12_image_19 (by decide) ?_
      refine t_sz hx hb hK hLA hB hS mbi tbi ai_85 (i_in (by decide) (by decide)) (show 0 ≤ (1 : Int32).toInt by decide) (show (1 : Int32).toInt ≤ 1 by decide) (Or.inr (by decide)) dX12_image_20 (fun H locs σ_188 eσ_188 hB hS => ?_)
      have k_189 : σ_188 bi 2 = 1 := by rw [eσ_188]; exact (up2_same _ _ _ _).trans (by decide)
      refine lv_aload_n hx hb dX12_image_21 rfl (lv_at hl 0 rfl) ?_
      refine t_gk hx hb hts hown hK hB mh0 th0 fq_12_41 hbf mw_6_17 dX12_image_22 ?_
      refine lv_iload_n hx hb dX12_image_25 rfl (lv_at hl 1 rfl) ?_
      refine lv_aload_n hx hb dX12_image_26 rfl (lv_at hl 0 rfl) ?_
      have k_190 : σ_188 h0 21 = (σ h0 21) := by rw [eσ_188, up2_nej _ _ (by decide)]
      refine t_gv hx hb hts hown hK hB mh0 th0 fi_12_21 k_190 mw_5_237 dX12_image_27 ?_
      refine t_si hx hb hK hLA hB hS mbf tbf ai_83 (i_in (by decide) (by decide)) (by show (-1) ≤ _; (first | omega | (subst_vars; omega))) (by show _ ≤ 5; (first | omega | (subst_vars; omega))) (Or.inr (by decide)) dX12_image_30 (fun H locs σ_191 eσ_191 hB hS => ?_)
      have k_192 : σ_191 bf 2 = (σ h0 21) := by rw [eσ_191]; exact up2_same _ _ _ _
      refine lv_aload_n hx hb dX12_image_31 rfl (lv_at hl 0 rfl) ?_
      refine t_gk hx hb hts hown hK hB mh0 th0 fq_12_42 hbx mw_6_18 dX12_image_32 ?_
      refine lv_iload_n hx hb dX12_image_35 rfl (lv_at hl 1 rfl) ?_
      refine lv_aload_n hx hb dX12_image_36 rfl (lv_at hl 0 rfl) ?_
      have k_193 : σ_188 h0 22 = (σ h0 22) := by rw [eσ_188, up2_nej _ _ (by decide)]
      have k_194 : σ_191 h0 22 = (σ h0 22) := by rw [eσ_191, up2_nej _ _ (by decide)]; exact k_193
      refine t_gv hx hb hts hown hK hB mh0 th0 fi_12_22 k_194 mw_5_238 dX12_image_37 ?_
      refine t_si hx hb hK hLA hB hS mbx tbx ai_84 (i_in (by decide) (by decide)) (i_lo _) (i_hi _) (Or.inr (by decide)) dX12_image_40 (fun H locs σ_195 eσ_195 hB hS => ?_)
      have k_196 : σ_195 bx 2 = (σ h0 22) := by rw [eσ_195]; exact up2_same _ _ _ _
      refine lv_iconst (v := 0) hx hb dX12_image_41 (by decide) ?_
      refine lv_istore_n (lv' := [(2, .int 0), (0, .ref h0), (1, .int 2)]) hx hb dX12_image_42 rfl hl (by decide) rfl (fun ls hl => ?_)
      have k_197 : σ_188 bx 0 = (σ bx 0) := by rw [eσ_188, up2_nej _ _ (by decide)]
      have k_198 : σ_191 bx 0 = (σ bx 0) := by rw [eσ_191, up2_nej _ _ (by decide)]; exact k_197
      have k_199 : σ_195 bx 0 = (σ bx 0) := by rw [eσ_195, up2_nej _ _ (by decide)]; exact k_198
      have k_200 : σ_188 bi 0 = (σ bi 0) := by rw [eσ_188, up2_nej _ _ (by decide)]
      have k_201 : σ_191 bi 0 = (σ bi 0) := by rw [eσ_191, up2_nej _ _ (by decide)]; exact k_200
      have k_202 : σ_195 bi 0 = (σ bi 0) := by rw [eσ_195, up2_nej _ _ (by decide)]; exact k_201
      have k_203 : σ_188 bf 0 = (σ bf 0) := by rw [eσ_188, up2_nej _ _ (by decide)]
      have k_204 : σ_191 bf 0 = (σ bf 0) := by rw [eσ_191, up2_nej _ _ (by decide)]; exact k_203
      have k_205 : σ_195 bf 0 = (σ bf 0) := by rw [eσ_195, up2_nej _ _ (by decide)]; exact k_204
      have k_206 : σ_188 bx 1 = (σ bx 1) := by rw [eσ_188, up2_nej _ _ (by decide)]
      have k_207 : σ_191 bx 1 = (σ bx 1) := by rw [eσ_191, up2_nej _ _ (by decide)]; exact k_206
      have k_208 : σ_195 bx 1 = (σ bx 1) := by rw [eσ_195, up2_nej _ _ (by decide)]; exact k_207
      have k_209 : σ_188 bi 1 = (σ bi 1) := by rw [eσ_188, up2_nej _ _ (by decide)]
      have k_210 : σ_191 bi 1 = (σ bi 1) := by rw [eσ_191, up2_nej _ _ (by decide)]; exact k_209
      have k_211 : σ_195 bi 1 = (σ bi 1) := by rw [eσ_195, up2_nej _ _ (by decide)]; exact k_210
      have k_212 : σ_188 bf 1 = (σ bf 1) := by rw [eσ_188, up2_nej _ _ (by decide)]
      have k_213 : σ_191 bf 1 = (σ bf 1) := by rw [eσ_191, up2_nej _ _ (by decide)]; exact k_212
      have k_214 : σ_195 bf 1 = (σ bf 1) := by rw [eσ_195, up2_nej _ _ (by decide)]; exact k_213
      have k_215 : σ_188 bx 3 = (σ bx 3) := by rw [eσ_188, up2_nej _ _ (by decide)]
      have k_216 : σ_191 bx 3 = (σ bx 3) := by rw [eσ_191, up2_nej _ _ (by decide)]; exact k_215
      have k_217 : σ_195 bx 3 = (σ bx 3) := by rw [eσ_195, up2_nej _ _ (by decide)]; exact k_216
      have k_218 : σ_188 bi 3 = (σ bi 3) := by rw [eσ_188, up2_nej _ _ (by decide)]
      have k_219 : σ_191 bi 3 = (σ bi 3) := by rw [eσ_191, up2_nej _ _ (by decide)]; exact k_218
      have k_220 : σ_195 bi 3 = (σ bi 3) := by rw [eσ_195, up2_nej _ _ (by decide)]; exact k_219
      have k_221 : σ_188 bf 3 = (σ bf 3) := by rw [eσ_188, up2_nej _ _ (by decide)]
      have k_222 : σ_191 bf 3 = (σ bf 3) := by rw [eσ_191, up2_nej _ _ (by decide)]; exact k_221
      have k_223 : σ_195 bf 3 = (σ bf 3) := by rw [eσ_195, up2_nej _ _ (by decide)]; exact k_222
      have k_224 : σ_195 h0 22 = (σ h0 22) := by rw [eσ_195, up2_nej _ _ (by decide)]; exact k_194
      have k_225 : σ_191 h0 21 = (σ h0 21) := by rw [eσ_191, up2_nej _ _ (by decide)]; exact k_190
      have k_226 : σ_195 h0 21 = (σ h0 21) := by rw [eσ_195, up2_nej _ _ (by decide)]; exact k_225
      have k_227 : σ_191 bi 2 = 1 := by rw [eσ_191, up2_nea _ _ (tg_ne tbi tbf (by decide))]; exact k_189
      have k_228 : σ_195 bi 2 = 1 := by rw [eσ_195, up2_nea _ _ (tg_ne tbi tbx (by decide))]; exact k_227
      have k_229 : σ_195 bf 2 = (σ h0 21) := by rw [eσ_195, up2_nea _ _ (tg_ne tbf tbx (by decide))]; exact k_192
      refine w_loop (α := Int32 × Sg × Lg) (fun (i_230, σ_231, ρ_232) H locs ls => 0 ≤ i_230.toInt ∧ i_230.toInt ≤ 201 ∧ σ_231 bx 0 = (σ bx 0) ∧ σ_231 bi 0 = (σ bi 0) ∧ σ_231 bf 0 = (σ bf 0) ∧ σ_231 bx 1 = (σ bx 1) ∧ σ_231 bi 1 = (σ bi 1) ∧ σ_231 bf 1 = (σ bf 1) ∧ σ_231 bx 3 = (σ bx 3) ∧ σ_231 bi 3 = (σ bi 3) ∧ σ_231 bf 3 = (σ bf 3) ∧ σ_231 h0 22 = (σ h0 22) ∧ σ_231 h0 21 = (σ h0 21) ∧ σ_231 bi 2 = 1 ∧ σ_231 bf 2 = (σ h0 21) ∧ σ_231 bx 2 = (σ h0 22) ∧ TS D cA L T r ry [(82, 1000), (83, 1000), (84, 1000), (85, 1000)] σ σ_231 ρ_232 H ∧ va_S (dm L s.heap.size) s.heap H locs ∧ lv_has ls 3 [(2, .int i_230), (0, .ref h0), (1, .int 2)]) (fun (i_230, σ_231, ρ_232) => (201 - i_230.toInt).toNat) ?_ ⟨0, σ_195, ρ_16⟩ ⟨(by decide), (by decide), k_199, k_202, k_205, k_208, k_211, k_214, k_217, k_220, k_223, k_224, k_226, k_228, k_229, k_196, hB, hS, lv_sub hl [0, 1, 2] rfl⟩
      rintro ⟨i_230, σ_231, ρ_232⟩ H locs ls ⟨li_230, ui_230, k_234, k_235, k_236, k_237, k_238, k_239, k_240, k_241, k_242, k_243, k_244, k_245, k_246, k_247, hB, hS, hl⟩ ih_233
      refine lv_iload_n hx hb dX12_image_43 rfl (lv_at hl 0 rfl) ?_
      refine lv_sipush (v := 201) hx hb dX12_image_44 (by decide) ?_
      refine lv_icmp_ge (tgt := 74) hx hb dX12_image_47 (by decide) (fun c_248 => ?_) (fun c_248 => ?_)
      · skip
        have uc_248 := i_ge (n := 201) (by decide) c_248
        refine lv_aload_n hx hb dX12_image_74 rfl (lv_at hl 1 rfl) ?_
        refine t_gr hx hb hts hown hK hG hB mh0 th0 fq_12_20 rfl mw_5_236 dX12_image_75 (fun b_249 hb_249 mb_249 tb_249 => ?_)
        refine lv_iconst (v := 4) hx hb dX12_image_78 (by decide) ?_
        refine t_aj hx hb hK hB mb_249 tb_249 ai_70 (i_in (by decide) (by decide)) dX12_image_79 (fun x_250 ex_250 lx_250 ux_250 => ?_)
        have ax_250 := lx_250
        have bx_250 := ux_250
        have lx_250 : (-2147483648) ≤ x_250.toInt := lx_250
        have ux_250 : x_250.toInt ≤ 2147483647 := ux_250
        have cx_250 := congrArg Int32.toInt ex_250
        exact W.iret (v := x_250) hx hb hr (fun t ht hW => ⟨⟨x_250, (σ_231, ρ_232), rfl, ⟨hB.2.1, hB.2.2, ⟨(show ((2 : Int32).toInt = 0 → σ_231 bx 0 = σ h0 22 ∧ σ_231 bi 0 = 1 ∧ σ_231 bf 0 = σ h0 21) ∧ (¬ (2 : Int32).toInt = 0 → σ_231 bx 0 = σ bx 0 ∧ σ_231 bi 0 = σ bi 0 ∧ σ_231 bf 0 = σ bf 0) from ⟨fun h => absurd h (by decide), fun _ => ⟨k_234, k_235, k_236⟩⟩), (show ((2 : Int32).toInt = 1 → σ_231 bx 1 = σ h0 22 ∧ σ_231 bi 1 = 1 ∧ σ_231 bf 1 = σ h0 21) ∧ (¬ (2 : Int32).toInt = 1 → σ_231 bx 1 = σ bx 1 ∧ σ_231 bi 1 = σ bi 1 ∧ σ_231 bf 1 = σ bf 1) from ⟨fun h => absurd h (by decide), fun _ => ⟨k_237, k_238, k_239⟩⟩), (show ((2 : Int32).toInt = 2 → σ_231 bx 2 = σ h0 22 ∧ σ_231 bi 2 = 1 ∧ σ_231 bf 2 = σ h0 21) ∧ (¬ (2 : Int32).toInt = 2 → σ_231 bx 2 = σ bx 2 ∧ σ_231 bi 2 = σ bi 2 ∧ σ_231 bf 2 = σ bf 2) from ⟨fun _ => ⟨k_247, k_245, k_246⟩, fun h => absurd (by decide) h⟩), (show ((2 : Int32).toInt = 3 → σ_231 bx 3 = σ h0 22 ∧ σ_231 bi 3 = 1 ∧ σ_231 bf 3 = σ h0 21) ∧ (¬ (2 : Int32).toInt = 3 → σ_231 bx 3 = σ bx 3 ∧ σ_231 bi 3 = σ bi 3 ∧ σ_231 bf 3 = σ bf 3) from ⟨fun h => absurd h (by decide), fun _ => ⟨k_240, k_241, k_242⟩⟩)⟩⟩, (show TP D cA L T r σ_231 ρ_232 t.heap from by rw [ht]; exact hB.1)⟩, hS.F ht⟩) hS.2.2 dX12_image_80
      · skip
        have uc_248 := i_nge (n := 201) (by decide) c_248
        refine lv_aload_n hx hb dX12_image_50 rfl (lv_at hl 1 rfl) ?_
        refine t_gr hx hb hts hown hK hG hB mh0 th0 fq_12_40 rfl mw_6_16 dX12_image_51 (fun b_251 hb_251 mb_251 tb_251 => ?_)
        refine lv_sipush (v := 201) hx hb dX12_image_54 (by decide) ?_
        refine lv_iload_n hx hb dX12_image_57 rfl (lv_at hl 2 rfl) ?_
        refine lv_imul hx hb dX12_image_58 ?_
        refine tp_i (w := 402) (by decide) ?_
        refine lv_iload_n hx hb dX12_image_59 rfl (lv_at hl 0 rfl) ?_
        refine lv_iadd hx hb dX12_image_60 ?_
        refine lv_topi (fun x_252 ex_252 => ?_)
        have vx_252 := b_add (by decide : (402 : Int32).toInt = 402) (rfl : i_230.toInt = _) ex_252 (by omega) (by omega)
        refine lv_aload_n hx hb dX12_image_61 rfl (lv_at hl 1 rfl) ?_
        refine t_gr hx hb hts hown hK hG hB mh0 th0 fq_12_20 rfl mw_5_236 dX12_image_62 (fun b_253 hb_253 mb_253 tb_253 => ?_)
        refine lv_iload_n hx hb dX12_image_65 rfl (lv_at hl 0 rfl) ?_
        refine t_aj hx hb hK hB mb_253 tb_253 ai_70 (i_in (by omega) (by omega)) dX12_image_66 (fun x_254 ex_254 lx_254 ux_254 => ?_)
        have ax_254 := lx_254
        have bx_254 := ux_254
        clear lx_254 ux_254
        have cx_254 := congrArg Int32.toInt ex_254
        refine t_si hx hb hK hLA hB hS mb_251 tb_251 ai_82 (i_in (by omega) (by omega)) (show (sb ((x_252 : Int32).toNatClampNeg % 201)).1 ≤ _ by rw [(show (x_252 : Int32).toNatClampNeg % 201 = (i_230 : Int32).toNatClampNeg by have hn0 : (x_252 : Int32).toNatClampNeg = x_252.toInt.toNat := rfl; have hn1 : (i_230 : Int32).toNatClampNeg = i_230.toInt.toNat := rfl; omega)]; exact ax_254) (show _ ≤ (sb ((x_252 : Int32).toNatClampNeg % 201)).2 by rw [(show (x_252 : Int32).toNatClampNeg % 201 = (i_230 : Int32).toNatClampNeg by have hn0 : (x_252 : Int32).toNatClampNeg = x_252.toInt.toNat := rfl; have hn1 : (i_230 : Int32).toNatClampNeg = i_230.toInt.toNat := rfl; omega)]; exact bx_254) (Or.inr (by decide)) dX12_image_67 (fun H locs σ_255 eσ_255 hB hS => ?_)
        have k_256 : σ_255 b_251 x_252.toNatClampNeg = x_254 := by rw [eσ_255]; exact up2_same _ _ _ _
        obtain ⟨x_257, ex_257⟩ : ∃ y : Int32, y = i_230 + 1 := ⟨_, rfl⟩
        have vx_257 := b_add (rfl : i_230.toInt = _) (by decide : (1 : Int32).toInt = 1) ex_257 (by omega) (by omega)
        refine lv_iinc (v := x_257) (lv' := [(2, .int x_257), (0, .ref h0), (1, .int 2)]) hx hb dX12_image_68 hl (k := 0) rfl (by rw [ex_257]; rfl) (by decide) rfl (fun ls hl => ?_)
        refine lv_goto (tgt := 43) hx hb dX12_image_71 (by decide) ?_
        have k_258 : σ_255 bx 0 = (σ bx 0) := by rw [eσ_255, up2_nea _ _ (tg_ne tbx tb_251 (by decide))]; exact k_234
        have k_259 : σ_255 bi 0 = (σ bi 0) := by rw [eσ_255, up2_nea _ _ (tg_ne tbi tb_251 (by decide))]; exact k_235
        have k_260 : σ_255 bf 0 = (σ bf 0) := by rw [eσ_255, up2_nea _ _ (tg_ne tbf tb_251 (by decide))]; exact k_236
        have k_261 : σ_255 bx 1 = (σ bx 1) := by rw [eσ_255, up2_nea _ _ (tg_ne tbx tb_251 (by decide))]; exact k_237
        have k_262 : σ_255 bi 1 = (σ bi 1) := by rw [eσ_255, up2_nea _ _ (tg_ne tbi tb_251 (by decide))]; exact k_238
        have k_263 : σ_255 bf 1 = (σ bf 1) := by rw [eσ_255, up2_nea _ _ (tg_ne tbf tb_251 (by decide))]; exact k_239
        have k_264 : σ_255 bx 3 = (σ bx 3) := by rw [eσ_255, up2_nea _ _ (tg_ne tbx tb_251 (by decide))]; exact k_240
        have k_265 : σ_255 bi 3 = (σ bi 3) := by rw [eσ_255, up2_nea _ _ (tg_ne tbi tb_251 (by decide))]; exact k_241
        have k_266 : σ_255 bf 3 = (σ bf 3) := by rw [eσ_255, up2_nea _ _ (tg_ne tbf tb_251 (by decide))]; exact k_242
        have k_267 : σ_255 h0 22 = (σ h0 22) := by rw [eσ_255, up2_nea _ _ (tg_ne th0 tb_251 (by decide))]; exact k_243
        have k_268 : σ_255 h0 21 = (σ h0 21) := by rw [eσ_255, up2_nea _ _ (tg_ne th0 tb_251 (by decide))]; exact k_244
        have k_269 : σ_255 bi 2 = 1 := by rw [eσ_255, up2_nea _ _ (tg_ne tbi tb_251 (by decide))]; exact k_245
        have k_270 : σ_255 bf 2 = (σ h0 21) := by rw [eσ_255, up2_nea _ _ (tg_ne tbf tb_251 (by decide))]; exact k_246
        have k_271 : σ_255 bx 2 = (σ h0 22) := by rw [eσ_255, up2_nea _ _ (tg_ne tbx tb_251 (by decide))]; exact k_247
        exact ih_233 ⟨x_257, σ_255, ρ_232⟩ _ _ _ ⟨(by omega), (by omega), k_258, k_259, k_260, k_261, k_262, k_263, k_264, k_265, k_266, k_267, k_268, k_269, k_270, k_271, hB, hS, lv_sub hl [0, 1, 2] rfl⟩ (by show (201 - x_257.toInt).toNat < (201 - i_230.toInt).toNat; omega)
    · skip
      have c_19x : p1 = 3 := i_is (by decide) c_19j
      subst c_19x
      refine lv_aload_n hx hb dX12_image_14 rfl (lv_at hl 0 rfl) ?_
      refine t_gk hx hb hts hown hK hB mh0 th0 fq_12_43 hbi mw_6_19 dX12_image_15 ?_
      refine lv_iload_n hx hb dX12_image_18 rfl (lv_at hl 1 rfl) ?_
      refine lv_iconst (v := 1) hx hb dX12_image_19 (by decide) ?_
      refine t_sz hx hb hK hLA hB hS mbi tbi ai_85 (i_in (by decide) (by decide)) (show 0 ≤ (1 : Int32).toInt by decide) (show (1 : Int32).toInt ≤ 1 by decide) (Or.inr (by decide)) dX12_image_20 (fun H locs σ_272 eσ_272 hB hS => ?_)
      have k_273 : σ_272 bi 3 = 1 := by rw [eσ_272]; exact (up2_same _ _ _ _).trans (by decide)
      refine lv_aload_n hx hb dX12_image_21 rfl (lv_at hl 0 rfl) ?_
      refine t_gk hx hb hts hown hK hB mh0 th0 fq_12_41 hbf mw_6_17 dX12_image_22 ?_
      refine lv_iload_n hx hb dX12_image_25 rfl (lv_at hl 1 rfl) ?_
      refine lv_aload_n hx hb dX12_image_26 rfl (lv_at hl 0 rfl) ?_
      have k_274 : σ_272 h0 21 = (σ h0 21) := by rw [eσ_272, up2_nej _ _ (by decide)]
      refine t_gv hx hb hts hown hK hB mh0 th0 fi_12_21 k_274 mw_5_237 dX12_image_27 ?_
      refine t_si hx hb hK hLA hB hS mbf tbf ai_83 (i_in (by decide) (by decide)) (by show (-1) ≤ _; (first | omega | (subst_vars; omega))) (by show _ ≤ 5; (first | omega | (subst_vars; omega))) (Or.inr (by decide)) dX12_image_30 (fun H locs σ_275 eσ_275 hB hS => ?_)
      have k_276 : σ_275 bf 3 = (σ h0 21) := by rw [eσ_275]; exact up2_same _ _ _ _
      refine lv_aload_n hx hb dX12_image_31 rfl (lv_at hl 0 rfl) ?_
      refine t_gk hx hb hts hown hK hB mh0 th0 fq_12_42 hbx mw_6_18 dX12_image_32 ?_
      refine lv_iload_n hx hb dX12_image_35 rfl (lv_at hl 1 rfl) ?_
      refine lv_aload_n hx hb dX12_image_36 rfl (lv_at hl 0 rfl) ?_
      have k_277 : σ_272 h0 22 = (σ h0 22) := by rw [eσ_272, up2_nej _ _ (by decide)]
      have k_278 : σ_275 h0 22 = (σ h0 22) := by rw [eσ_275, up2_nej _ _ (by decide)]; exact k_277
      refine t_gv hx hb hts hown hK hB mh0 th0 fi_12_22 k_278 mw_5_238 dX12_image_37 ?_
      refine t_si hx hb hK hLA hB hS mbx tbx ai_84 (i_in (by decide) (by decide)) (i_lo _) (i_hi _) (Or.inr (by decide)) dX12_image_40 (fun H locs σ_279 eσ_279 hB hS => ?_)
      have k_280 : σ_279 bx 3 = (σ h0 22) := by rw [eσ_279]; exact up2_same _ _ _ _
      refine lv_iconst (v := 0) hx hb dX12_image_41 (by decide) ?_
      refine lv_istore_n (lv' := [(2, .int 0), (0, .ref h0), (1, .int 3)]) hx hb dX12_image_42 rfl hl (by decide) rfl (fun ls hl => ?_)
      have k_281 : σ_272 bx 0 = (σ bx 0) := by rw [eσ_272, up2_nej _ _ (by decide)]
      have k_282 : σ_275 bx 0 = (σ bx 0) := by rw [eσ_275, up2_nej _ _ (by decide)]; exact k_281
      have k_283 : σ_279 bx 0 = (σ bx 0) := by rw [eσ_279, up2_nej _ _ (by decide)]; exact k_282
      have k_284 : σ_272 bi 0 = (σ bi 0) := by rw [eσ_272, up2_nej _ _ (by decide)]
      have k_285 : σ_275 bi 0 = (σ bi 0) := by rw [eσ_275, up2_nej _ _ (by decide)]; exact k_284
      have k_286 : σ_279 bi 0 = (σ bi 0) := by rw [eσ_279, up2_nej _ _ (by decide)]; exact k_285
      have k_287 : σ_272 bf 0 = (σ bf 0) := by rw [eσ_272, up2_nej _ _ (by decide)]
      have k_288 : σ_275 bf 0 = (σ bf 0) := by rw [eσ_275, up2_nej _ _ (by decide)]; exact k_287
      have k_289 : σ_279 bf 0 = (σ bf 0) := by rw [eσ_279, up2_nej _ _ (by decide)]; exact k_288
      have k_290 : σ_272 bx 1 = (σ bx 1) := by rw [eσ_272, up2_nej _ _ (by decide)]
      have k_291 : σ_275 bx 1 = (σ bx 1) := by rw [eσ_275, up2_nej _ _ (by decide)]; exact k_290
      have k_292 : σ_279 bx 1 = (σ bx 1) := by rw [eσ_279, up2_nej _ _ (by decide)]; exact k_291
      have k_293 : σ_272 bi 1 = (σ bi 1) := by rw [eσ_272, up2_nej _ _ (by decide)]
      have k_294 : σ_275 bi 1 = (σ bi 1) := by rw [eσ_275, up2_nej _ _ (by decide)]; exact k_293
      have k_295 : σ_279 bi 1 = (σ bi 1) := by rw [eσ_279, up2_nej _ _ (by decide)]; exact k_294
      have k_296 : σ_272 bf 1 = (σ bf 1) := by rw [eσ_272, up2_nej _ _ (by decide)]
      have k_297 : σ_275 bf 1 = (σ bf 1) := by rw [eσ_275, up2_nej _ _ (by decide)]; exact k_296
      have k_298 : σ_279 bf 1 = (σ bf 1) := by rw [eσ_279, up2_nej _ _ (by decide)]; exact k_297
      have k_299 : σ_272 bx 2 = (σ bx 2) := by rw [eσ_272, up2_nej _ _ (by decide)]
      have k_300 : σ_275 bx 2 = (σ bx 2) := by rw [eσ_275, up2_nej _ _ (by decide)]; exact k_299
      have k_301 : σ_279 bx 2 = (σ bx 2) := by rw [eσ_279, up2_nej _ _ (by decide)]; exact k_300
      have k_302 : σ_272 bi 2 = (σ bi 2) := by rw [eσ_272, up2_nej _ _ (by decide)]
      have k_303 : σ_275 bi 2 = (σ bi 2) := by rw [eσ_275, up2_nej _ _ (by decide)]; exact k_302
      have k_304 : σ_279 bi 2 = (σ bi 2) := by rw [eσ_279, up2_nej _ _ (by decide)]; exact k_303
      have k_305 : σ_272 bf 2 = (σ bf 2) := by rw [eσ_272, up2_nej _ _ (by decide)]
      have k_306 : σ_275 bf 2 = (σ bf 2) := by rw [eσ_275, up2_nej _ _ (by decide)]; exact k_305
      have k_307 : σ_279 bf 2 = (σ bf 2) := by rw [eσ_279, up2_nej _ _ (by decide)]; exact k_306
      have k_308 : σ_279 h0 22 = (σ h0 22) := by rw [eσ_279, up2_nej _ _ (by decide)]; exact k_278
      have k_309 : σ_275 h0 21 = (σ h0 21) := by rw [eσ_275, up2_nej _ _ (by decide)]; exact k_274
      have k_310 : σ_279 h0 21 = (σ h0 21) := by rw [eσ_279, up2_nej _ _ (by decide)]; exact k_309
      have k_311 : σ_275 bi 3 = 1 := by rw [eσ_275, up2_nea _ _ (tg_ne tbi tbf (by decide))]; exact k_273
      have k_312 : σ_279 bi 3 = 1 := by rw [eσ_279, up2_nea _ _ (tg_ne tbi tbx (by decide))]; exact k_311
      have k_313 : σ_279 bf 3 = (σ h0 21) := by rw [eσ_279, up2_nea _ _ (tg_ne tbf tbx (by decide))]; exact k_276
      refine w_loop (α := Int32 × Sg × Lg) (fun (i_314, σ_315, ρ_316) H locs ls => 0 ≤ i_314.toInt ∧ i_314.toInt ≤ 201 ∧ σ_315 bx 0 = (σ bx 0) ∧ σ_315 bi 0 = (σ bi 0) ∧ σ_315 bf 0 = (σ bf 0) ∧ σ_315 bx 1 = (σ bx 1) ∧ σ_315 bi 1 = (σ bi 1) ∧ σ_315 bf 1 = (σ bf 1) ∧ σ_315 bx 2 = (σ bx 2) ∧ σ_315 bi 2 = (σ bi 2) ∧ σ_315 bf 2 = (σ bf 2) ∧ σ_315 h0 22 = (σ h0 22) ∧ σ_315 h0 21 = (σ h0 21) ∧ σ_315 bi 3 = 1 ∧ σ_315 bf 3 = (σ h0 21) ∧ σ_315 bx 3 = (σ h0 22) ∧ TS D cA L T r ry [(82, 1000), (83, 1000), (84, 1000), (85, 1000)] σ σ_315 ρ_316 H ∧ va_S (dm L s.heap.size) s.heap H locs ∧ lv_has ls 3 [(2, .int i_314), (0, .ref h0), (1, .int 3)]) (fun (i_314, σ_315, ρ_316) => (201 - i_314.toInt).toNat) ?_ ⟨0, σ_279, ρ_16⟩ ⟨(by decide), (by decide), k_283, k_286, k_289, k_292, k_295, k_298, k_301, k_304, k_307, k_308, k_310, k_312, k_313, k_280, hB, hS, lv_sub hl [0, 1, 2] rfl⟩
      rintro ⟨i_314, σ_315, ρ_316⟩ H locs ls ⟨li_314, ui_314, k_318, k_319, k_320, k_321, k_322, k_323, k_324, k_325, k_326, k_327, k_328, k_329, k_330, k_331, hB, hS, hl⟩ ih_317
      refine lv_iload_n hx hb dX12_image_43 rfl (lv_at hl 0 rfl) ?_
      refine lv_sipush (v := 201) hx hb dX12_image_44 (by decide) ?_
      refine lv_icmp_ge (tgt := 74) hx hb dX12_image_47 (by decide) (fun c_332 => ?_) (fun c_332 => ?_)
      · skip
        have uc_332 := i_ge (n := 201) (by decide) c_332
        refine lv_aload_n hx hb dX12_image_74 rfl (lv_at hl 1 rfl) ?_
        refine t_gr hx hb hts hown hK hG hB mh0 th0 fq_12_20 rfl mw_5_236 dX12_image_75 (fun b_333 hb_333 mb_333 tb_333 => ?_)
        refine lv_iconst (v := 4) hx hb dX12_image_78 (by decide) ?_
        refine t_aj hx hb hK hB mb_333 tb_333 ai_70 (i_in (by decide) (by decide)) dX12_image_79 (fun x_334 ex_334 lx_334 ux_334 => ?_)
        have ax_334 := lx_334
        have bx_334 := ux_334
        have lx_334 : (-2147483648) ≤ x_334.toInt := lx_334
        have ux_334 : x_334.toInt ≤ 2147483647 := ux_334
        have cx_334 := congrArg Int32.toInt ex_334
        exact W.iret (v := x_334) hx hb hr (fun t ht hW => ⟨⟨x_334, (σ_315, ρ_316), rfl, ⟨hB.2.1, hB.2.2, ⟨(show ((3 : Int32).toInt = 0 → σ_315 bx 0 = σ h0 22 ∧ σ_315 bi 0 = 1 ∧ σ_315 bf 0 = σ h0 21) ∧ (¬ (3 : Int32).toInt = 0 → σ_315 bx 0 = σ bx 0 ∧ σ_315 bi 0 = σ bi 0 ∧ σ_315 bf 0 = σ bf 0) from ⟨fun h => absurd h (by decide), fun _ => ⟨k_318, k_319, k_320⟩⟩), (show ((3 : Int32).toInt = 1 → σ_315 bx 1 = σ h0 22 ∧ σ_315 bi 1 = 1 ∧ σ_315 bf 1 = σ h0 21) ∧ (¬ (3 : Int32).toInt = 1 → σ_315 bx 1 = σ bx 1 ∧ σ_315 bi 1 = σ bi 1 ∧ σ_315 bf 1 = σ bf 1) from ⟨fun h => absurd h (by decide), fun _ => ⟨k_321, k_322, k_323⟩⟩), (show ((3 : Int32).toInt = 2 → σ_315 bx 2 = σ h0 22 ∧ σ_315 bi 2 = 1 ∧ σ_315 bf 2 = σ h0 21) ∧ (¬ (3 : Int32).toInt = 2 → σ_315 bx 2 = σ bx 2 ∧ σ_315 bi 2 = σ bi 2 ∧ σ_315 bf 2 = σ bf 2) from ⟨fun h => absurd h (by decide), fun _ => ⟨k_324, k_325, k_326⟩⟩), (show ((3 : Int32).toInt = 3 → σ_315 bx 3 = σ h0 22 ∧ σ_315 bi 3 = 1 ∧ σ_315 bf 3 = σ h0 21) ∧ (¬ (3 : Int32).toInt = 3 → σ_315 bx 3 = σ bx 3 ∧ σ_315 bi 3 = σ bi 3 ∧ σ_315 bf 3 = σ bf 3) from ⟨fun _ => ⟨k_331, k_329, k_330⟩, fun h => absurd (by decide) h⟩)⟩⟩, (show TP D cA L T r σ_315 ρ_316 t.heap from by rw [ht]; exact hB.1)⟩, hS.F ht⟩) hS.2.2 dX12_image_80
      · skip
        have uc_332 := i_nge (n := 201) (by decide) c_332
        refine lv_aload_n hx hb dX12_image_50 rfl (lv_at hl 1 rfl) ?_
        refine t_gr hx hb hts hown hK hG hB mh0 th0 fq_12_40 rfl mw_6_16 dX12_image_51 (fun b_335 hb_335 mb_335 tb_335 => ?_)
        refine lv_sipush (v := 201) hx hb dX12_image_54 (by decide) ?_
        refine lv_iload_n hx hb dX12_image_57 rfl (lv_at hl 2 rfl) ?_
        refine lv_imul hx hb dX12_image_58 ?_
        refine tp_i (w := 603) (by decide) ?_
        refine lv_iload_n hx hb dX12_image_59 rfl (lv_at hl 0 rfl) ?_
        refine lv_iadd hx hb dX12_image_60 ?_
        refine lv_topi (fun x_336 ex_336 => ?_)
        have vx_336 := b_add (by decide : (603 : Int32).toInt = 603) (rfl : i_314.toInt = _) ex_336 (by omega) (by omega)
        refine lv_aload_n hx hb dX12_image_61 rfl (lv_at hl 1 rfl) ?_
        refine t_gr hx hb hts hown hK hG hB mh0 th0 fq_12_20 rfl mw_5_236 dX12_image_62 (fun b_337 hb_337 mb_337 tb_337 => ?_)
        refine lv_iload_n hx hb dX12_image_65 rfl (lv_at hl 0 rfl) ?_
        refine t_aj hx hb hK hB mb_337 tb_337 ai_70 (i_in (by omega) (by omega)) dX12_image_66 (fun x_338 ex_338 lx_338 ux_338 => ?_)
        have ax_338 := lx_338
        have bx_338 := ux_338
        clear lx_338 ux_338
        have cx_338 := congrArg Int32.toInt ex_338
        refine t_si hx hb hK hLA hB hS mb_335 tb_335 ai_82 (i_in (by omega) (by omega)) (show (sb ((x_336 : Int32).toNatClampNeg % 201)).1 ≤ _ by rw [(show (x_336 : Int32).toNatClampNeg % 201 = (i_314 : Int32).toNatClampNeg by have hn0 : (x_336 : Int32).toNatClampNeg = x_336.toInt.toNat := rfl; have hn1 : (i_314 : Int32).toNatClampNeg = i_314.toInt.toNat := rfl; omega)]; exact ax_338) (show _ ≤ (sb ((x_336 : Int32).toNatClampNeg % 201)).2 by rw [(show (x_336 : Int32).toNatClampNeg % 201 = (i_314 : Int32).toNatClampNeg by have hn0 : (x_336 : Int32).toNatClampNeg = x_336.toInt.toNat := rfl; have hn1 : (i_314 : Int32).toNatClampNeg = i_314.toInt.toNat := rfl; omega)]; exact bx_338) (Or.inr (by decide)) dX12_image_67 (fun H locs σ_339 eσ_339 hB hS => ?_)
        have k_340 : σ_339 b_335 x_336.toNatClampNeg = x_338 := by rw [eσ_339]; exact up2_same _ _ _ _
        obtain ⟨x_341, ex_341⟩ : ∃ y : Int32, y = i_314 + 1 := ⟨_, rfl⟩
        have vx_341 := b_add (rfl : i_314.toInt = _) (by decide : (1 : Int32).toInt = 1) ex_341 (by omega) (by omega)
        refine lv_iinc (v := x_341) (lv' := [(2, .int x_341), (0, .ref h0), (1, .int 3)]) hx hb dX12_image_68 hl (k := 0) rfl (by rw [ex_341]; rfl) (by decide) rfl (fun ls hl => ?_)
        refine lv_goto (tgt := 43) hx hb dX12_image_71 (by decide) ?_
        have k_342 : σ_339 bx 0 = (σ bx 0) := by rw [eσ_339, up2_nea _ _ (tg_ne tbx tb_335 (by decide))]; exact k_318
        have k_343 : σ_339 bi 0 = (σ bi 0) := by rw [eσ_339, up2_nea _ _ (tg_ne tbi tb_335 (by decide))]; exact k_319
        have k_344 : σ_339 bf 0 = (σ bf 0) := by rw [eσ_339, up2_nea _ _ (tg_ne tbf tb_335 (by decide))]; exact k_320
        have k_345 : σ_339 bx 1 = (σ bx 1) := by rw [eσ_339, up2_nea _ _ (tg_ne tbx tb_335 (by decide))]; exact k_321
        have k_346 : σ_339 bi 1 = (σ bi 1) := by rw [eσ_339, up2_nea _ _ (tg_ne tbi tb_335 (by decide))]; exact k_322
        have k_347 : σ_339 bf 1 = (σ bf 1) := by rw [eσ_339, up2_nea _ _ (tg_ne tbf tb_335 (by decide))]; exact k_323
        have k_348 : σ_339 bx 2 = (σ bx 2) := by rw [eσ_339, up2_nea _ _ (tg_ne tbx tb_335 (by decide))]; exact k_324
        have k_349 : σ_339 bi 2 = (σ bi 2) := by rw [eσ_339, up2_nea _ _ (tg_ne tbi tb_335 (by decide))]; exact k_325
        have k_350 : σ_339 bf 2 = (σ bf 2) := by rw [eσ_339, up2_nea _ _ (tg_ne tbf tb_335 (by decide))]; exact k_326
        have k_351 : σ_339 h0 22 = (σ h0 22) := by rw [eσ_339, up2_nea _ _ (tg_ne th0 tb_335 (by decide))]; exact k_327
        have k_352 : σ_339 h0 21 = (σ h0 21) := by rw [eσ_339, up2_nea _ _ (tg_ne th0 tb_335 (by decide))]; exact k_328
        have k_353 : σ_339 bi 3 = 1 := by rw [eσ_339, up2_nea _ _ (tg_ne tbi tb_335 (by decide))]; exact k_329
        have k_354 : σ_339 bf 3 = (σ h0 21) := by rw [eσ_339, up2_nea _ _ (tg_ne tbf tb_335 (by decide))]; exact k_330
        have k_355 : σ_339 bx 3 = (σ h0 22) := by rw [eσ_339, up2_nea _ _ (tg_ne tbx tb_335 (by decide))]; exact k_331
        exact ih_317 ⟨x_341, σ_339, ρ_316⟩ _ _ _ ⟨(by omega), (by omega), k_342, k_343, k_344, k_345, k_346, k_347, k_348, k_349, k_350, k_351, k_352, k_353, k_354, k_355, hB, hS, lv_sub hl [0, 1, 2] rfl⟩ (by show (201 - x_341.toInt).toNat < (201 - i_314.toInt).toNat; omega)
  · skip
    have uc_18 := i_eq (n := 0) (by decide) c_18
    refine lv_iconst (v := (-1)) hx hb dX12_image_12 (by decide) ?_
    exact W.iret (v := (-1)) hx hb hr (fun t ht hW => ⟨⟨(-1), (σ, ρ_16), rfl, ⟨hB.2.1, hB.2.2, ⟨(show (p1.toInt = 0 → σ bx 0 = σ h0 22 ∧ σ bi 0 = 1 ∧ σ bf 0 = σ h0 21) ∧ (¬ p1.toInt = 0 → σ bx 0 = σ bx 0 ∧ σ bi 0 = σ bi 0 ∧ σ bf 0 = σ bf 0) from ⟨fun h => by exfalso; omega, fun _ => ⟨rfl, rfl, rfl⟩⟩), (show (p1.toInt = 1 → σ bx 1 = σ h0 22 ∧ σ bi 1 = 1 ∧ σ bf 1 = σ h0 21) ∧ (¬ p1.toInt = 1 → σ bx 1 = σ bx 1 ∧ σ bi 1 = σ bi 1 ∧ σ bf 1 = σ bf 1) from ⟨fun h => by exfalso; omega, fun _ => ⟨rfl, rfl, rfl⟩⟩), (show (p1.toInt = 2 → σ bx 2 = σ h0 22 ∧ σ bi 2 = 1 ∧ σ bf 2 = σ h0 21) ∧ (¬ p1.toInt = 2 → σ bx 2 = σ bx 2 ∧ σ bi 2 = σ bi 2 ∧ σ bf 2 = σ bf 2) from ⟨fun h => by exfalso; omega, fun _ => ⟨rfl, rfl, rfl⟩⟩), (show (p1.toInt = 3 → σ bx 3 = σ h0 22 ∧ σ bi 3 = 1 ∧ σ bf 3 = σ h0 21) ∧ (¬ p1.toInt = 3 → σ bx 3 = σ bx 3 ∧ σ bi 3 = σ bi 3 ∧ σ bf 3 = σ bf 3) from ⟨fun h => by exfalso; omega, fun _ => ⟨rfl, rfl, rfl⟩⟩)⟩⟩, (show TP D cA L T r σ ρ_16 t.heap from by rw [ht]; exact hB.1)⟩, hS.F ht⟩) hS.2.2 dX12_image_13
set_option maxHeartbeats 4000000 in
set_option maxRecDepth 100000 in
theorem cz_X12_back (l : Launch) (D : va_G) (cA : Nat → ClassId) (L : List Nat) (T : Nat → Nat) (r : Rg) (hG : GR L T r) (hL : L.Nodup) (σ : Sg) (ρ : Lg) (hW : WT L ry T σ) (sz : Nat) (h0 : Nat) (mh0 : h0 ∈ L) (th0 : T h0 = 12) (p1 : Int32) (bx : Nat) (hbx : r h0 42 = some bx) (mbx : bx ∈ L) (tbx : T bx = 84) (bi : Nat) (hbi : r h0 43 = some bi) (mbi : bi ∈ L) (tbi : T bi = 85) (bf : Nat) (hbf : r h0 41 = some bf) (mbf : bf ∈ L) (tbf : T bf = 83) : Met l yX12_back (.code yX12_back cX12_back 3 (some .int) :: wsA) ({ frames := 1, cells := 0, slots := 0, locals := 25 }) (PR D cA L T r σ ρ sz [.ref h0, .int p1]) (QI D cA L T r ry [(12, 21), (12, 22), (12, 25), (70, 1000)] σ sz (fun x σ1 => ((p1.toInt < 0 ∨ 3 < p1.toInt) → σ1 h0 22 = σ h0 22 ∧ σ1 h0 21 = σ h0 21) ∧ (p1.toInt = 0 → ((σ bi 0).toInt = 0 → σ1 h0 22 = σ h0 22 ∧ σ1 h0 21 = σ h0 21) ∧ (¬ (σ bi 0).toInt = 0 → σ1 h0 22 = σ bx 0 ∧ σ1 h0 21 = σ bf 0)) ∧ (p1.toInt = 1 → ((σ bi 1).toInt = 0 → σ1 h0 22 = σ h0 22 ∧ σ1 h0 21 = σ h0 21) ∧ (¬ (σ bi 1).toInt = 0 → σ1 h0 22 = σ bx 1 ∧ σ1 h0 21 = σ bf 1)) ∧ (p1.toInt = 2 → ((σ bi 2).toInt = 0 → σ1 h0 22 = σ h0 22 ∧ σ1 h0 21 = σ h0 21) ∧ (¬ (σ bi 2).toInt = 0 → σ1 h0 22 = σ bx 2 ∧ σ1 h0 21 = σ bf 2)) ∧ (p1.toInt = 3 → ((σ bi 3).toInt = 0 → σ1 h0 22 = σ h0 22 ∧ σ1 h0 21 = σ h0 21) ∧ (¬ (σ bi 3).toInt = 0 → σ1 h0 22 = σ bx 3 ∧ σ1 h0 21 = σ bf 3)))) 0 0 (dm L sz) := by
  refine Met.ofW (cc := cX12_back) (maxL := 3) (ret := (some .int)) (by decide) rfl ?_
  intro p e s m args below meth c s₁ B hml hv
  obtain ⟨rfl, hsz, hP, hK, hN⟩ := hv
  have hx := B.exec
  have hb := B.bytes
  have hr := B.returns
  have hts : ∀ w ∈ wsA, w.before _ s = true := fun w h => atoms_spec (ws := .code yX12_back cX12_back 3 (some .int) :: wsA) B.pre w (List.mem_cons_of_mem _ h)
  have hown : s.vm.findClass RX12 = some m.cls := findClass_of_methodNamed B.named
  subst hsz
  have hLA : LA (dm L s.heap.size) L := ⟨hL, fun a h => Or.inl h⟩
  have hA : ∀ q : Nat, s.heap.size ≤ q → dm L s.heap.size q := fun q h => Or.inr h
  have hS : va_S (dm L s.heap.size) s.heap s.heap [] := va_S.rf
  have hB : TS D cA L T r ry [(12, 21), (12, 22), (12, 25), (70, 1000)] σ σ ρ s.heap := ⟨hP, hW, FR.rf⟩
  have hl := lv_entry ([.ref h0, .int p1]) (n := 3) (Nat.le_of_ble_eq_true rfl)
  rw [lg_entry_eq]
  generalize (lg_sl ([.ref h0, .int p1]) ++ List.replicate (3 - (lg_sl ([.ref h0, .int p1])).length) Slot.unset).toArray = ls at hl ⊢
  have hl : lv_has ls 3 [(0, .ref h0), (1, .int p1)] := hl
  have w_1 : (-2147483648) ≤ (σ bx 0).toInt ∧ (σ bx 0).toInt ≤ 2147483647 := by have z := hB.2.1 bx mbx 0; rw [tbx] at z; exact z
  have w_2 : 0 ≤ (σ bi 0).toInt ∧ (σ bi 0).toInt ≤ 1 := by have z := hB.2.1 bi mbi 0; rw [tbi] at z; exact z
  have w_3 : (-1) ≤ (σ bf 0).toInt ∧ (σ bf 0).toInt ≤ 5 := by have z := hB.2.1 bf mbf 0; rw [tbf] at z; exact z
  have w_4 : (-2147483648) ≤ (σ bx 1).toInt ∧ (σ bx 1).toInt ≤ 2147483647 := by have z := hB.2.1 bx mbx 1; rw [tbx] at z; exact z
  have w_5 : 0 ≤ (σ bi 1).toInt ∧ (σ bi 1).toInt ≤ 1 := by have z := hB.2.1 bi mbi 1; rw [tbi] at z; exact z
  have w_6 : (-1) ≤ (σ bf 1).toInt ∧ (σ bf 1).toInt ≤ 5 := by have z := hB.2.1 bf mbf 1; rw [tbf] at z; exact z
  have w_7 : (-2147483648) ≤ (σ bx 2).toInt ∧ (σ bx 2).toInt ≤ 2147483647 := by have z := hB.2.1 bx mbx 2; rw [tbx] at z; exact z
  have w_8 : 0 ≤ (σ bi 2).toInt ∧ (σ bi 2).toInt ≤ 1 := by have z := hB.2.1 bi mbi 2; rw [tbi] at z; exact z
  have w_9 : (-1) ≤ (σ bf 2).toInt ∧ (σ bf 2).toInt ≤ 5 := by have z := hB.2.1 bf mbf 2; rw [tbf] at z; exact z
  have w_10 : (-2147483648) ≤ (σ bx 3).toInt ∧ (σ bx 3).toInt ≤ 2147483647 := by have z := hB.2.1 bx mbx 3; rw [tbx] at z; exact z
  have w_11 : 0 ≤ (σ bi 3).toInt ∧ (σ bi 3).toInt ≤ 1 := by have z := hB.2.1 bi mbi 3; rw [tbi] at z; exact z
  have w_12 : (-1) ≤ (σ bf 3).toInt ∧ (σ bf 3).toInt ≤ 5 := by have z := hB.2.1 bf mbf 3; rw [tbf] at z; exact z
  have w_13 : (-2147483648) ≤ (σ h0 22).toInt ∧ (σ h0 22).toInt ≤ 2147483647 := by have z := hB.2.1 h0 mh0 22; rw [th0] at z; exact z
  have w_14 : (-1) ≤ (σ h0 21).toInt ∧ (σ h0 21).toInt ≤ 5 := by have z := hB.2.1 h0 mh0 21; rw [th0] at z; exact z
  refine lv_iload_n hx hb dX12_back_0 rfl (lv_at hl 1 rfl) ?_
  refine lv_i2l (v := p1.toInt64) hx hb dX12_back_1 rfl ?_
  refine lv_lconst (v := 0) hx hb dX12_back_2 (by decide) ?_
  refine lv_ldc2 (v := 3) hx hb hown (hts _ mw_8_138) dX12_back_3 ?_
  refine t_ci (va_runS (As := [.long p1.toInt64, .long 0, .long 3]) (rest := []) ⟨hx, hb, hml, hown, hts⟩ (cz_X12_in_0_3 l D cA L T r hG hLA.1 σ ρ hB.2.1 _ p1) (cS hts ms_X12_in mw_6_185 rfl rfl ⟨Nat.le_of_ble_eq_true rfl, Nat.le_of_ble_eq_true rfl⟩) (pS hB.1 hK hN) rfl rfl hl.1 rfl (lv_room (Nat.le_of_ble_eq_true rfl)) dX12_back_6 ⟨Nat.le_of_ble_eq_true rfl, Nat.le_of_ble_eq_true rfl⟩) hLA hA hB hS (by decide) (fun x_17 σ_15 ρ_16 H locs hB fσ_15 pσ_15 hS => ?_)
  have qσ_15 := FR.nil fσ_15
  subst qσ_15
  obtain ⟨ox_17, ix_17⟩ := pσ_15
  refine lv_if_eq (tgt := 21) hx hb dX12_back_9 (by decide) (fun c_18 => ?_) (fun c_18 => ?_)
  · skip
    have uc_18 := i_eq (n := 0) (by decide) c_18
    refine lv_iconst (v := (-1)) hx hb dX12_back_21 (by decide) ?_
    exact W.iret (v := (-1)) hx hb hr (fun t ht hW => ⟨⟨(-1), (σ, ρ_16), rfl, ⟨hB.2.1, hB.2.2, ⟨(show (p1.toInt < 0 ∨ 3 < p1.toInt) → σ h0 22 = σ h0 22 ∧ σ h0 21 = σ h0 21 from (fun _ => ⟨rfl, rfl⟩)), (show p1.toInt = 0 → ((σ bi 0).toInt = 0 → σ h0 22 = σ h0 22 ∧ σ h0 21 = σ h0 21) ∧ (¬ (σ bi 0).toInt = 0 → σ h0 22 = σ bx 0 ∧ σ h0 21 = σ bf 0) from (fun h => by exfalso; omega)), (show p1.toInt = 1 → ((σ bi 1).toInt = 0 → σ h0 22 = σ h0 22 ∧ σ h0 21 = σ h0 21) ∧ (¬ (σ bi 1).toInt = 0 → σ h0 22 = σ bx 1 ∧ σ h0 21 = σ bf 1) from (fun h => by exfalso; omega)), (show p1.toInt = 2 → ((σ bi 2).toInt = 0 → σ h0 22 = σ h0 22 ∧ σ h0 21 = σ h0 21) ∧ (¬ (σ bi 2).toInt = 0 → σ h0 22 = σ bx 2 ∧ σ h0 21 = σ bf 2) from (fun h => by exfalso; omega)), (show p1.toInt = 3 → ((σ bi 3).toInt = 0 → σ h0 22 = σ h0 22 ∧ σ h0 21 = σ h0 21) ∧ (¬ (σ bi 3).toInt = 0 → σ h0 22 = σ bx 3 ∧ σ h0 21 = σ bf 3) from (fun h => by exfalso; omega))⟩⟩, (show TP D cA L T r σ ρ_16 t.heap from by rw [ht]; exact hB.1)⟩, hS.F ht⟩) hS.2.2 dX12_back_22
  · skip
    have uc_18 := i_ne (n := 0) (by decide) c_18
    rcases (show p1.toInt = 0 ∨ p1.toInt = 1 ∨ p1.toInt = 2 ∨ p1.toInt = 3 by omega) with c_19j | c_19j | c_19j | c_19j
    · skip
      have c_19x : p1 = 0 := i_is (by decide) c_19j
      subst c_19x
      refine lv_aload_n hx hb dX12_back_12 rfl (lv_at hl 0 rfl) ?_
      refine t_gk hx hb hts hown hK hB mh0 th0 fq_12_43 hbi mw_6_19 dX12_back_13 ?_
      refine lv_iload_n hx hb dX12_back_16 rfl (lv_at hl 1 rfl) ?_
      refine t_az hx hb hK hB mbi tbi ai_85 (fun _ => rfl) (i_in (by decide) (by decide)) dX12_back_17 (fun x_20 ex_20 lx_20 ux_20 => ?_)
      have qx_20 : x_20 = (σ bi 0) := ex_20.trans rfl
      have qx_20 := qx_20.symm
      subst qx_20
      refine lv_if_ne (tgt := 23) hx hb dX12_back_18 (by decide) (fun c_21 => ?_) (fun c_21 => ?_)
      · skip
        have uc_21 := i_ne (n := 0) (by decide) c_21
        refine lv_aload_n hx hb dX12_back_23 rfl (lv_at hl 0 rfl) ?_
        refine lv_aload_n hx hb dX12_back_24 rfl (lv_at hl 0 rfl) ?_
        refine t_gk hx hb hts hown hK hB mh0 th0 fq_12_41 hbf mw_6_17 dX12_back_25 ?_
        refine lv_iload_n hx hb dX12_back_28 rfl (lv_at hl 1 rfl) ?_
        refine t_ai hx hb hK hB mbf tbf ai_83 (fun _ => rfl) (i_in (by decide) (by decide)) dX12_back_29 (fun x_22 ex_22 lx_22 ux_22 => ?_)
        have qx_22 : x_22 = (σ bf 0) := ex_22.trans rfl
        have qx_22 := qx_22.symm
        subst qx_22
        refine t_pi hx hb hts hown hK hLA hB hS mh0 th0 fi_12_21 rfl rfl rfl (by first | omega | (subst_vars; omega)) (by first | omega | (subst_vars; omega)) (Or.inl (by decide)) mw_5_237 dX12_back_30 (fun H locs σ_23 eσ_23 hB hS => ?_)
        have k_24 : σ_23 h0 21 = (σ bf 0) := by rw [eσ_23]; exact up2_same _ _ _ _
        refine lv_aload_n hx hb dX12_back_33 rfl (lv_at hl 0 rfl) ?_
        refine lv_aload_n hx hb dX12_back_34 rfl (lv_at hl 0 rfl) ?_
        refine t_gk hx hb hts hown hK hB mh0 th0 fq_12_42 hbx mw_6_18 dX12_back_35 ?_
        refine lv_iload_n hx hb dX12_back_38 rfl (lv_at hl 1 rfl) ?_
        have k_25 : σ_23 bx 0 = (σ bx 0) := by rw [eσ_23, up2_nej _ _ (by decide)]
        refine t_ai hx hb hK hB mbx tbx ai_84 (fun _ => rfl) (i_in (by decide) (by decide)) dX12_back_39 (fun x_26 ex_26 lx_26 ux_26 => ?_)
        have qx_26 : x_26 = (σ bx 0) := ex_26.trans k_25
        have qx_26 := qx_26.symm
        subst qx_26
        refine t_pi hx hb hts hown hK hLA hB hS mh0 th0 fi_12_22 rfl rfl rfl (i_lo _) (i_hi _) (Or.inl (by decide)) mw_5_238 dX12_back_40 (fun H locs σ_27 eσ_27 hB hS => ?_)
        have k_28 : σ_27 h0 22 = (σ bx 0) := by rw [eσ_27]; exact up2_same _ _ _ _
        refine lv_aload_n hx hb dX12_back_43 rfl (lv_at hl 0 rfl) ?_
        refine lv_iconst (v := 0) hx hb dX12_back_44 (by decide) ?_
        refine t_pi hx hb hts hown hK hLA hB hS mh0 th0 fi_12_25 rfl rfl rfl (by decide) (by decide) (Or.inl (by decide)) mw_6_1 dX12_back_45 (fun H locs σ_29 eσ_29 hB hS => ?_)
        have k_30 : σ_29 h0 25 = 0 := by rw [eσ_29]; exact up2_same _ _ _ _
        refine lv_iconst (v := 0) hx hb dX12_back_48 (by decide) ?_
        refine lv_istore_n (lv' := [(2, .int 0), (0, .ref h0), (1, .int 0)]) hx hb dX12_back_49 rfl hl (by decide) rfl (fun ls hl => ?_)
        have k_31 : σ_27 bx 0 = (σ bx 0) := by rw [eσ_27, up2_nej _ _ (by decide)]; exact k_25
        have k_32 : σ_29 bx 0 = (σ bx 0) := by rw [eσ_29, up2_nej _ _ (by decide)]; exact k_31
        have k_33 : σ_23 bi 0 = (σ bi 0) := by rw [eσ_23, up2_nej _ _ (by decide)]
        have k_34 : σ_27 bi 0 = (σ bi 0) := by rw [eσ_27, up2_nej _ _ (by decide)]; exact k_33
        have k_35 : σ_29 bi 0 = (σ bi 0) := by rw [eσ_29, up2_nej _ _ (by decide)]; exact k_34
        have k_36 : σ_23 bf 0 = (σ bf 0) := by rw [eσ_23, up2_nej _ _ (by decide)]
        have k_37 : σ_27 bf 0 = (σ bf 0) := by rw [eσ_27, up2_nej _ _ (by decide)]; exact k_36
        have k_38 : σ_29 bf 0 = (σ bf 0) := by rw [eσ_29, up2_nej _ _ (by decide)]; exact k_37
        have k_39 : σ_23 bx 1 = (σ bx 1) := by rw [eσ_23, up2_nej _ _ (by decide)]
        have k_40 : σ_27 bx 1 = (σ bx 1) := by rw [eσ_27, up2_nej _ _ (by decide)]; exact k_39
        have k_41 : σ_29 bx 1 = (σ bx 1) := by rw [eσ_29, up2_nej _ _ (by decide)]; exact k_40
        have k_42 : σ_23 bi 1 = (σ bi 1) := by rw [eσ_23, up2_nej _ _ (by decide)]
        have k_43 : σ_27 bi 1 = (σ bi 1) := by rw [eσ_27, up2_nej _ _ (by decide)]; exact k_42
        have k_44 : σ_29 bi 1 = (σ bi 1) := by rw [eσ_29, up2_nej _ _ (by decide)]; exact k_43
        have k_45 : σ_23 bf 1 = (σ bf 1) := by rw [eσ_23, up2_nej _ _ (by decide)]
        have k_46 : σ_27 bf 1 = (σ bf 1) := by rw [eσ_27, up2_nej _ _ (by decide)]; exact k_45
        have k_47 : σ_29 bf 1 = (σ bf 1) := by rw [eσ_29, up2_nej _ _ (by decide)]; exact k_46
        have k_48 : σ_23 bx 2 = (σ bx 2) := by rw [eσ_23, up2_nej _ _ (by decide)]
        have k_49 : σ_27 bx 2 = (σ bx 2) := by rw [eσ_27, up2_nej _ _ (by decide)]; exact k_48
        have k_50 : σ_29 bx 2 = (σ bx 2) := by rw [eσ_29, up2_nej _ _ (by decide)]; exact k_49
        have k_51 : σ_23 bi 2 = (σ bi 2) := by rw [eσ_23, up2_nej _ _ (by decide)]
        have k_52 : σ_27 bi 2 = (σ bi 2) := by rw [eσ_27, up2_nej _ _ (by decide)]; exact k_51
        have k_53 : σ_29 bi 2 = (σ bi 2) := by rw [eσ_29, up2_nej _ _ (by decide)]; exact k_52
        have k_54 : σ_23 bf 2 = (σ bf 2) := by rw [eσ_23, up2_nej _ _ (by decide)]
        have k_55 : σ_27 bf 2 = (σ bf 2) := by rw [eσ_27, up2_nej _ _ (by decide)]; exact k_54
        have k_56 : σ_29 bf 2 = (σ bf 2) := by rw [eσ_29, up2_nej _ _ (by decide)]; exact k_55
        have k_57 : σ_23 bx 3 = (σ bx 3) := by rw [eσ_23, up2_nej _ _ (by decide)]
        have k_58 : σ_27 bx 3 = (σ bx 3) := by rw [eσ_27, up2_nej _ _ (by decide)]; exact k_57
        have k_59 : σ_29 bx 3 = (σ bx 3) := by rw [eσ_29, up2_nej _ _ (by decide)]; exact k_58
        have k_60 : σ_23 bi 3 = (σ bi 3) := by rw [eσ_23, up2_nej _ _ (by decide)]
        have k_61 : σ_27 bi 3 = (σ bi 3) := by rw [eσ_27, up2_nej _ _ (by decide)]; exact k_60
        have k_62 : σ_29 bi 3 = (σ bi 3) := by rw [eσ_29, up2_nej _ _ (by decide)]; exact k_61
        have k_63 : σ_23 bf 3 = (σ bf 3) := by rw [eσ_23, up2_nej _ _ (by decide)]
        have k_64 : σ_27 bf 3 = (σ bf 3) := by rw [eσ_27, up2_nej _ _ (by decide)]; exact k_63
        have k_65 : σ_29 bf 3 = (σ bf 3) := by rw [eσ_29, up2_nej _ _ (by decide)]; exact k_64
        have k_66 : σ_27 h0 21 = (σ bf 0) := by rw [eσ_27, up2_nej _ _ (by decide)]; exact k_24
        have k_67 : σ_29 h0 21 = (σ bf 0) := by rw [eσ_29, up2_nej _ _ (by decide)]; exact k_66
        have k_68 : σ_29 h0 22 = (σ bx 0) := by rw [eσ_29, up2_nej _ _ (by decide)]; exact k_28
        refine w_loop (α := Int32 × Sg × Lg) (fun (i_69, σ_70, ρ_71) H locs ls => 0 ≤ i_69.toInt ∧ i_69.toInt ≤ 201 ∧ σ_70 bx 0 = (σ bx 0) ∧ σ_70 bi 0 = (σ bi 0) ∧ σ_70 bf 0 = (σ bf 0) ∧ σ_70 bx 1 = (σ bx 1) ∧ σ_70 bi 1 = (σ bi 1) ∧ σ_70 bf 1 = (σ bf 1) ∧ σ_70 bx 2 = (σ bx 2) ∧ σ_70 bi 2 = (σ bi 2) ∧ σ_70 bf 2 = (σ bf 2) ∧ σ_70 bx 3 = (σ bx 3) ∧ σ_70 bi 3 = (σ bi 3) ∧ σ_70 bf 3 = (σ bf 3) ∧ σ_70 h0 21 = (σ bf 0) ∧ σ_70 h0 22 = (σ bx 0) ∧ σ_70 h0 25 = 0 ∧ TS D cA L T r ry [(12, 21), (12, 22), (12, 25), (70, 1000)] σ σ_70 ρ_71 H ∧ va_S (dm L s.heap.size) s.heap H locs ∧ lv_has ls 3 [(2, .int i_69), (0, .ref h0), (1, .int 0)]) (fun (i_69, σ_70, ρ_71) => (201 - i_69.toInt).toNat) ?_ ⟨0, σ_29, ρ_16⟩ ⟨(by decide), (by decide), k_32, k_35, k_38, k_41, k_44, k_47, k_50, k_53, k_56, k_59, k_62, k_65, k_67, k_68, k_30, hB, hS, lv_sub hl [0, 1, 2] rfl⟩
        rintro ⟨i_69, σ_70, ρ_71⟩ H locs ls ⟨li_69, ui_69, k_73, k_74, k_75, k_76, k_77, k_78, k_79, k_80, k_81, k_82, k_83, k_84, k_85, k_86, k_87, hB, hS, hl⟩ ih_72
        refine lv_iload_n hx hb dX12_back_50 rfl (lv_at hl 0 rfl) ?_
        refine lv_sipush (v := 201) hx hb dX12_back_51 (by decide) ?_
        refine lv_icmp_ge (tgt := 81) hx hb dX12_back_54 (by decide) (fun c_88 => ?_) (fun c_88 => ?_)
        · skip
          have uc_88 := i_ge (n := 201) (by decide) c_88
          refine lv_aload_n hx hb dX12_back_81 rfl (lv_at hl 1 rfl) ?_
          refine t_gr hx hb hts hown hK hG hB mh0 th0 fq_12_20 rfl mw_5_236 dX12_back_82 (fun b_89 hb_89 mb_89 tb_89 => ?_)
          refine lv_iconst (v := 4) hx hb dX12_back_85 (by decide) ?_
          refine t_aj hx hb hK hB mb_89 tb_89 ai_70 (i_in (by decide) (by decide)) dX12_back_86 (fun x_90 ex_90 lx_90 ux_90 => ?_)
          have ax_90 := lx_90
          have bx_90 := ux_90
          have lx_90 : (-2147483648) ≤ x_90.toInt := lx_90
          have ux_90 : x_90.toInt ≤ 2147483647 := ux_90
          have cx_90 := congrArg Int32.toInt ex_90
          exact W.iret (v := x_90) hx hb hr (fun t ht hW => ⟨⟨x_90, (σ_70, ρ_71), rfl, ⟨hB.2.1, hB.2.2, ⟨(show ((0 : Int32).toInt < 0 ∨ 3 < (0 : Int32).toInt) → σ_70 h0 22 = σ h0 22 ∧ σ_70 h0 21 = σ h0 21 from (fun h => absurd h (by decide))), (show (0 : Int32).toInt = 0 → ((σ bi 0).toInt = 0 → σ_70 h0 22 = σ h0 22 ∧ σ_70 h0 21 = σ h0 21) ∧ (¬ (σ bi 0).toInt = 0 → σ_70 h0 22 = σ bx 0 ∧ σ_70 h0 21 = σ bf 0) from (fun _ => ⟨fun h => by exfalso; omega, fun _ => ⟨k_86, k_85⟩⟩)), (show (0 : Int32).toInt = 1 → ((σ bi 1).toInt = 0 → σ_70 h0 22 = σ h0 22 ∧ σ_70 h0 21 = σ h0 21) ∧ (¬ (σ bi 1).toInt = 0 → σ_70 h0 22 = σ bx 1 ∧ σ_70 h0 21 = σ bf 1) from (fun h => absurd h (by decide))), (show (0 : Int32).toInt = 2 → ((σ bi 2).toInt = 0 → σ_70 h0 22 = σ h0 22 ∧ σ_70 h0 21 = σ h0 21) ∧ (¬ (σ bi 2).toInt = 0 → σ_70 h0 22 = σ bx 2 ∧ σ_70 h0 21 = σ bf 2) from (fun h => absurd h (by decide))), (show (0 : Int32).toInt = 3 → ((σ bi 3).toInt = 0 → σ_70 h0 22 = σ h0 22 ∧ σ_70 h0 21 = σ h0 21) ∧ (¬ (σ bi 3).toInt = 0 → σ_70 h0 22 = σ bx 3 ∧ σ_70 h0 21 = σ bf 3) from (fun h => absurd h (by decide)))⟩⟩, (show TP D cA L T r σ_70 ρ_71 t.heap from by rw [ht]; exact hB.1)⟩, hS.F ht⟩) hS.2.2 dX12_back_87
        · skip
          have uc_88 := i_nge (n := 201) (by decide) c_88
          refine lv_aload_n hx hb dX12_back_57 rfl (lv_at hl 1 rfl) ?_
          refine t_gr hx hb hts hown hK hG hB mh0 th0 fq_12_20 rfl mw_5_236 dX12_back_58 (fun b_91 hb_91 mb_91 tb_91 => ?_)
          refine lv_iload_n hx hb dX12_back_61 rfl (lv_at hl 0 rfl) ?_
          refine lv_aload_n hx hb dX12_back_62 rfl (lv_at hl 1 rfl) ?_
          refine t_gr hx hb hts hown hK hG hB mh0 th0 fq_12_40 rfl mw_6_16 dX12_back_63 (fun b_92 hb_92 mb_92 tb_92 => ?_)
          refine lv_sipush (v := 201) hx hb dX12_back_66 (by decide) ?_
          refine lv_iload_n hx hb dX12_back_69 rfl (lv_at hl 2 rfl) ?_
          refine lv_imul hx hb dX12_back_70 ?_
          refine tp_i (w := 0) (by decide) ?_
          refine lv_iload_n hx hb dX12_back_71 rfl (lv_at hl 0 rfl) ?_
          refine lv_iadd hx hb dX12_back_72 ?_
          refine lv_topi (fun x_93 ex_93 => ?_)
          have vx_93 := b_add (by decide : (0 : Int32).toInt = 0) (rfl : i_69.toInt = _) ex_93 (by omega) (by omega)
          refine t_aj hx hb hK hB mb_92 tb_92 ai_82 (i_in (by omega) (by omega)) dX12_back_73 (fun x_94 ex_94 lx_94 ux_94 => ?_)
          have ax_94 := lx_94
          have bx_94 := ux_94
          clear lx_94 ux_94
          have cx_94 := congrArg Int32.toInt ex_94
          refine t_si hx hb hK hLA hB hS mb_91 tb_91 ai_70 (i_in (by omega) (by omega)) (show (sb ((i_69 : Int32).toNatClampNeg)).1 ≤ _ by rw [(show (i_69 : Int32).toNatClampNeg = (x_93 : Int32).toNatClampNeg % 201 by have hn0 : (i_69 : Int32).toNatClampNeg = i_69.toInt.toNat := rfl; have hn1 : (x_93 : Int32).toNatClampNeg = x_93.toInt.toNat := rfl; omega)]; exact ax_94) (show _ ≤ (sb ((i_69 : Int32).toNatClampNeg)).2 by rw [(show (i_69 : Int32).toNatClampNeg = (x_93 : Int32).toNatClampNeg % 201 by have hn0 : (i_69 : Int32).toNatClampNeg = i_69.toInt.toNat := rfl; have hn1 : (x_93 : Int32).toNatClampNeg = x_93.toInt.toNat := rfl; omega)]; exact bx_94) (Or.inr (by decide)) dX12_back_74 (fun H locs σ_95 eσ_95 hB hS => ?_)
          have k_96 : σ_95 b_91 i_69.toNatClampNeg = x_94 := by rw [eσ_95]; exact up2_same _ _ _ _
          obtain ⟨x_97, ex_97⟩ : ∃ y : Int32, y = i_69 + 1 := ⟨_, rfl⟩
          have vx_97 := b_add (rfl : i_69.toInt = _) (by decide : (1 : Int32).toInt = 1) ex_97 (by omega) (by omega)
          refine lv_iinc (v := x_97) (lv' := [(2, .int x_97), (0, .ref h0), (1, .int 0)]) hx hb dX12_back_75 hl (k := 0) rfl (by rw [ex_97]; rfl) (by decide) rfl (fun ls hl => ?_)
          refine lv_goto (tgt := 50) hx hb dX12_back_78 (by decide) ?_
          have k_98 : σ_95 bx 0 = (σ bx 0) := by rw [eσ_95, up2_nea _ _ (tg_ne tbx tb_91 (by decide))]; exact k_73
          have k_99 : σ_95 bi 0 = (σ bi 0) := by rw [eσ_95, up2_nea _ _ (tg_ne tbi tb_91 (by decide))]; exact k_74
          have k_100 : σ_95 bf 0 = (σ bf 0) := by rw [eσ_95, up2_nea _ _ (tg_ne tbf tb_91 (by decide))]; exact k_75
          have k_101 : σ_95 bx 1 = (σ bx 1) := by rw [eσ_95, up2_nea _ _ (tg_ne tbx tb_91 (by decide))]; exact k_76
          have k_102 : σ_95 bi 1 = (σ bi 1) := by rw [eσ_95, up2_nea _ _ (tg_ne tbi tb_91 (by decide))]; exact k_77
          have k_103 : σ_95 bf 1 = (σ bf 1) := by rw [eσ_95, up2_nea _ _ (tg_ne tbf tb_91 (by decide))]; exact k_78
          have k_104 : σ_95 bx 2 = (σ bx 2) := by rw [eσ_95, up2_nea _ _ (tg_ne tbx tb_91 (by decide))]; exact k_79
          have k_105 : σ_95 bi 2 = (σ bi 2) := by rw [eσ_95, up2_nea _ _ (tg_ne tbi tb_91 (by decide))]; exact k_80
          have k_106 : σ_95 bf 2 = (σ bf 2) := by rw [eσ_95, up2_nea _ _ (tg_ne tbf tb_91 (by decide))]; exact k_81
          have k_107 : σ_95 bx 3 = (σ bx 3) := by rw [eσ_95, up2_nea _ _ (tg_ne tbx tb_91 (by decide))]; exact k_82
          have k_108 : σ_95 bi 3 = (σ bi 3) := by rw [eσ_95, up2_nea _ _ (tg_ne tbi tb_91 (by decide))]; exact k_83
          have k_109 : σ_95 bf 3 = (σ bf 3) := by rw [eσ_95, up2_nea _ _ (tg_ne tbf tb_91 (by decide))]; exact k_84
          have k_110 : σ_95 h0 21 = (σ bf 0) := by rw [eσ_95, up2_nea _ _ (tg_ne th0 tb_91 (by decide))]; exact k_85
          have k_111 : σ_95 h0 22 = (σ bx 0) := by rw [eσ_95, up2_nea _ _ (tg_ne th0 tb_91 (by decide))]; exact k_86
          have k_112 : σ_95 h0 25 = 0 := by rw [eσ_95, up2_nea _ _ (tg_ne th0 tb_91 (by decide))]; exact k_87
          exact ih_72 ⟨x_97, σ_95, ρ_71⟩ _ _ _ ⟨(by omega), (by omega), k_98, k_99, k_100, k_101, k_102, k_103, k_104, k_105, k_106, k_107, k_108, k_109, k_110, k_111, k_112, hB, hS, lv_sub hl [0, 1, 2] rfl⟩ (by show (201 - x_97.toInt).toNat < (201 - i_69.toInt).toNat; omega)
      · skip
        have uc_21 := i_eq (n := 0) (by decide) c_21
        refine lv_iconst (v := (-1)) hx hb dX12_back_21 (by decide) ?_
        exact W.iret (v := (-1)) hx hb hr (fun t ht hW => ⟨⟨(-1), (σ, ρ_16), rfl, ⟨hB.2.1, hB.2.2, ⟨(show ((0 : Int32).toInt < 0 ∨ 3 < (0 : Int32).toInt) → σ h0 22 = σ h0 22 ∧ σ h0 21 = σ h0 21 from (fun h => absurd h (by decide))), (show (0 : Int32).toInt = 0 → ((σ bi 0).toInt = 0 → σ h0 22 = σ h0 22 ∧ σ h0 21 = σ h0 21) ∧ (¬ (σ bi 0).toInt = 0 → σ h0 22 = σ bx 0 ∧ σ h0 21 = σ bf 0) from (fun _ => ⟨fun _ => ⟨rfl, rfl⟩, fun h => by exfalso; omega⟩)), (show (0 : Int32).toInt = 1 → ((σ bi 1).toInt = 0 → σ h0 22 = σ h0 22 ∧ σ h0 21 = σ h0 21) ∧ (¬ (σ bi 1).toInt = 0 → σ h0 22 = σ bx 1 ∧ σ h0 21 = σ bf 1) from (fun h => absurd h (by decide))), (show (0 : Int32).toInt = 2 → ((σ bi 2).toInt = 0 → σ h0 22 = σ h0 22 ∧ σ h0 21 = σ h0 21) ∧ (¬ (σ bi 2).toInt = 0 → σ h0 22 = σ bx 2 ∧ σ h0 21 = σ bf 2) from (fun h => absurd h (by decide))), (show (0 : Int32).toInt = 3 → ((σ bi 3).toInt = 0 → σ h0 22 = σ h0 22 ∧ σ h0 21 = σ h0 21) ∧ (¬ (σ bi 3).toInt = 0 → σ h0 22 = σ bx 3 ∧ σ h0 21 = σ bf 3) from (fun h => absurd h (by decide)))⟩⟩, (show TP D cA L T r σ ρ_16 t.heap from by rw [ht]; exact hB.1)⟩, hS.F ht⟩) hS.2.2 dX12_back_22
    · skip
      have c_19x : p1 = 1 := i_is (by decide) c_19j
      subst c_19x
      refine lv_aload_n hx hb dX12_back_12 rfl (lv_at hl 0 rfl) ?_
      refine t_gk hx hb hts hown hK hB mh0 th0 fq_12_43 hbi mw_6_19 dX12_back_13 ?_
      refine lv_iload_n hx hb dX12_back_16 rfl (lv_at hl 1 rfl) ?_
      refine t_az hx hb hK hB mbi tbi ai_85 (fun _ => rfl) (i_in (by decide) (by decide)) dX12_back_17 (fun x_113 ex_113 lx_113 ux_113 => ?_)
      have qx_113 : x_113 = (σ bi 1) := ex_113.trans rfl
      have qx_113 := qx_113.symm
      subst qx_113
      refine lv_if_ne (tgt := 23) hx hb dX12_back_18 (by decide) (fun c_114 => ?_) (fun c_114 => ?_)
      · skip
        have uc_114 := i_ne (n := 0) (by decide) c_114
        refine lv_aload_n hx hb dX12_back_23 rfl (lv_at hl 0 rfl) ?_
        refine lv_aload_n hx hb dX12_back_24 rfl (lv_at hl 0 rfl) ?_
        refine t_gk hx hb hts hown hK hB mh0 th0 fq_12_41 hbf mw_6_17 dX12_back_25 ?_
        refine lv_iload_n hx hb dX12_back_28 rfl (lv_at hl 1 rfl) ?_
        refine t_ai hx hb hK hB mbf tbf ai_83 (fun _ => rfl) (i_in (by decide) (by decide)) dX12_back_29 (fun x_115 ex_115 lx_115 ux_115 => ?_)
        have qx_115 : x_115 = (σ bf 1) := ex_115.trans rfl
        have qx_115 := qx_115.symm
        subst qx_115
        refine t_pi hx hb hts hown hK hLA hB hS mh0 th0 fi_12_21 rfl rfl rfl (by first | omega | (subst_vars; omega)) (by first | omega | (subst_vars; omega)) (Or.inl (by decide)) mw_5_237 dX12_back_30 (fun H locs σ_116 eσ_116 hB hS => ?_)
        have k_117 : σ_116 h0 21 = (σ bf 1) := by rw [eσ_116]; exact up2_same _ _ _ _
        refine lv_aload_n hx hb dX12_back_33 rfl (lv_at hl 0 rfl) ?_
        refine lv_aload_n hx hb dX12_back_34 rfl (lv_at hl 0 rfl) ?_
        refine t_gk hx hb hts hown hK hB mh0 th0 fq_12_42 hbx mw_6_18 dX12_back_35 ?_
        refine lv_iload_n hx hb dX12_back_38 rfl (lv_at hl 1 rfl) ?_
        have k_118 : σ_116 bx 1 = (σ bx 1) := by rw [eσ_116, up2_nej _ _ (by decide)]
        refine t_ai hx hb hK hB mbx tbx ai_84 (fun _ => rfl) (i_in (by decide) (by decide)) dX12_back_39 (fun x_119 ex_119 lx_119 ux_119 => ?_)
        have qx_119 : x_119 = (σ bx 1) := ex_119.trans k_118
        have qx_119 := qx_119.symm
        subst qx_119
        refine t_pi hx hb hts hown hK hLA hB hS mh0 th0 fi_12_22 rfl rfl rfl (i_lo _) (i_hi _) (Or.inl (by decide)) mw_5_238 dX12_back_40 (fun H locs σ_120 eσ_120 hB hS => ?_)
        have k_121 : σ_120 h0 22 = (σ bx 1) := by rw [eσ_120]; exact up2_same _ _ _ _
        refine lv_aload_n hx hb dX12_back_43 rfl (lv_at hl 0 rfl) ?_
        refine lv_iconst (v := 0) hx hb dX12_back_44 (by decide) ?_
        refine t_pi hx hb hts hown hK hLA hB hS mh0 th0 fi_12_25 rfl rfl rfl (by decide) (by decide) (Or.inl (by decide)) mw_6_1 dX12_back_45 (fun H locs σ_122 eσ_122 hB hS => ?_)
        have k_123 : σ_122 h0 25 = 0 := by rw [eσ_122]; exact up2_same _ _ _ _
        refine lv_iconst (v := 0) hx hb dX12_back_48 (by decide) ?_
        refine lv_istore_n (lv' := [(2, .int 0), (0, .ref h0), (1, .int 1)]) hx hb dX12_back_49 rfl hl (by decide) rfl (fun ls hl => ?_)
        have k_124 : σ_116 bx 0 = (σ bx 0) := by rw [eσ_116, up2_nej _ _ (by decide)]
        have k_125 : σ_120 bx 0 = (σ bx 0) := by rw [eσ_120, up2_nej _ _ (by decide)]; exact k_124
        have k_126 : σ_122 bx 0 = (σ bx 0) := by rw [eσ_122, up2_nej _ _ (by decide)]; exact k_125
        have k_127 : σ_116 bi 0 = (σ bi 0) := by rw [eσ_116, up2_nej _ _ (by decide)]
        have k_128 : σ_120 bi 0 = (σ bi 0) := by rw [eσ_120, up2_nej _ _ (by decide)]; exact k_127
        have k_129 : σ_122 bi 0 = (σ bi 0) := by rw [eσ_122, up2_nej _ _ (by decide)]; exact k_128
        have k_130 : σ_116 bf 0 = (σ bf 0) := by rw [eσ_116, up2_nej _ _ (by decide)]
        have k_131 : σ_120 bf 0 = (σ bf 0) := by rw [eσ_120, up2_nej _ _ (by decide)]; exact k_130
        have k_132 : σ_122 bf 0 = (σ bf 0) := by rw [eσ_122, up2_nej _ _ (by decide)]; exact k_131
        have k_133 : σ_120 bx 1 = (σ bx 1) := by rw [eσ_120, up2_nej _ _ (by decide)]; exact k_118
        have k_134 : σ_122 bx 1 = (σ bx 1) := by rw [eσ_122, up2_nej _ _ (by decide)]; exact k_133
        have k_135 : σ_116 bi 1 = (σ bi 1) := by rw [eσ_116, up2_nej _ _ (by decide)]
        have k_136 : σ_120 bi 1 = (σ bi 1) := by rw [eσ_120, up2_nej _ _ (by decide)]; exact k_135
        have k_137 : σ_122 bi 1 = (σ bi 1) := by rw [eσ_122, up2_nej _ _ (by decide)]; exact k_136
        have k_138 : σ_116 bf 1 = (σ bf 1) := by rw [eσ_116, up2_nej _ _ (by decide)]
        have k_139 : σ_120 bf 1 = (σ bf 1) := by rw [eσ_120, up2_nej _ _ (by decide)]; exact k_138
        have k_140 : σ_122 bf 1 = (σ bf 1) := by rw [eσ_122, up2_nej _ _ (by decide)]; exact k_139
        have k_141 : σ_116 bx 2 = (σ bx 2) := by rw [eσ_116, up2_nej _ _ (by decide)]
        have k_142 : σ_120 bx 2 = (σ bx 2) := by rw [eσ_120, up2_nej _ _ (by decide)]; exact k_141
        have k_143 : σ_122 bx 2 = (σ bx 2) := by rw [eσ_122, up2_nej _ _ (by decide)]; exact k_142
        have k_144 : σ_116 bi 2 = (σ bi 2) := by rw [eσ_116, up2_nej _ _ (by decide)]
        have k_145 : σ_120 bi 2 = (σ bi 2) := by rw [eσ_120, up2_nej _ _ (by decide)]; exact k_144
        have k_146 : σ_122 bi 2 = (σ bi 2) := by rw [eσ_122, up2_nej _ _ (by decide)]; exact k_145
        have k_147 : σ_116 bf 2 = (σ bf 2) := by rw [eσ_116, up2_nej _ _ (by decide)]
        have k_148 : σ_120 bf 2 = (σ bf 2) := by rw [eσ_120, up2_nej _ _ (by decide)]; exact k_147
        have k_149 : σ_122 bf 2 = (σ bf 2) := by rw [eσ_122, up2_nej _ _ (by decide)]; exact k_148
        have k_150 : σ_116 bx 3 = (σ bx 3) := by rw [eσ_116, up2_nej _ _ (by decide)]
        have k_151 : σ_120 bx 3 = (σ bx 3) := by rw [eσ_120, up2_nej _ _ (by decide)]; exact k_150
        have k_152 : σ_122 bx 3 = (σ bx 3) := by rw [eσ_122, up2_nej _ _ (by decide)]; exact k_151
        have k_153 : σ_116 bi 3 = (σ bi 3) := by rw [eσ_116, up2_nej _ _ (by decide)]
        have k_154 : σ_120 bi 3 = (σ bi 3) := by rw [eσ_120, up2_nej _ _ (by decide)]; exact k_153
        have k_155 : σ_122 bi 3 = (σ bi 3) := by rw [eσ_122, up2_nej _ _ (by decide)]; exact k_154
        have k_156 : σ_116 bf 3 = (σ bf 3) := by rw [eσ_116, up2_nej _ _ (by decide)]
        have k_157 : σ_120 bf 3 = (σ bf 3) := by rw [eσ_120, up2_nej _ _ (by decide)]; exact k_156
        have k_158 : σ_122 bf 3 = (σ bf 3) := by rw [eσ_122, up2_nej _ _ (by decide)]; exact k_157
        have k_159 : σ_120 h0 21 = (σ bf 1) := by rw [eσ_120, up2_nej _ _ (by decide)]; exact k_117
        have k_160 : σ_122 h0 21 = (σ bf 1) := by rw [eσ_122, up2_nej _ _ (by decide)]; exact k_159
        have k_161 : σ_122 h0 22 = (σ bx 1) := by rw [eσ_122, up2_nej _ _ (by decide)]; exact k_121
        refine w_loop (α := Int32 × Sg × Lg) (fun (i_162, σ_163, ρ_164) H locs ls => 0 ≤ i_162.toInt ∧ i_162.toInt ≤ 201 ∧ σ_163 bx 0 = (σ bx 0) ∧ σ_163 bi 0 = (σ bi 0) ∧ σ_163 bf 0 = (σ bf 0) ∧ σ_163 bx 1 = (σ bx 1) ∧ σ_163 bi 1 = (σ bi 1) ∧ σ_163 bf 1 = (σ bf 1) ∧ σ_163 bx 2 = (σ bx 2) ∧ σ_163 bi 2 = (σ bi 2) ∧ σ_163 bf 2 = (σ bf 2) ∧ σ_163 bx 3 = (σ bx 3) ∧ σ_163 bi 3 = (σ bi 3) ∧ σ_163 bf 3 = (σ bf 3) ∧ σ_163 h0 21 = (σ bf 1) ∧ σ_163 h0 22 = (σ bx 1) ∧ σ_163 h0 25 = 0 ∧ TS D cA L T r ry [(12, 21), (12, 22), (12, 25), (70, 1000)] σ σ_163 ρ_164 H ∧ va_S (dm L s.heap.size) s.heap H locs ∧ lv_has ls 3 [(2, .int i_162), (0, .ref h0), (1, .int 1)]) (fun (i_162, σ_163, ρ_164) => (201 - i_162.toInt).toNat) ?_ ⟨0, σ_122, ρ_16⟩ ⟨(by decide), (by decide), k_126, k_129, k_132, k_134, k_137, k_140, k_143, k_146, k_149, k_152, k_155, k_158, k_160, k_161, k_123, hB, hS, lv_sub hl [0, 1, 2] rfl⟩
        rintro ⟨i_162, σ_163, ρ_164⟩ H locs ls ⟨li_162, ui_162, k_166, k_167, k_168, k_169, k_170, k_171, k_172, k_173, k_174, k_175, k_176, k_177, k_178, k_179, k_180, hB, hS, hl⟩ ih_165
        refine lv_iload_n hx hb dX12_back_50 rfl (lv_at hl 0 rfl) ?_
        refine lv_sipush (v := 201) hx hb dX12_back_51 (by decide) ?_
        refine lv_icmp_ge (tgt := 81) hx hb dX12_back_54 (by decide) (fun c_181 => ?_) (fun c_181 => ?_)
        · skip
          have uc_181 := i_ge (n := 201) (by decide) c_181
          refine lv_aload_n hx hb dX12_back_81 rfl (lv_at hl 1 rfl) ?_
          refine t_gr hx hb hts hown hK hG hB mh0 th0 fq_12_20 rfl mw_5_236 dX12_back_82 (fun b_182 hb_182 mb_182 tb_182 => ?_)
          refine lv_iconst (v := 4) hx hb dX12_back_85 (by decide) ?_
          refine t_aj hx hb hK hB mb_182 tb_182 ai_70 (i_in (by decide) (by decide)) dX12_back_86 (fun x_183 ex_183 lx_183 ux_183 => ?_)
          have ax_183 := lx_183
          have bx_183 := ux_183
          have lx_183 : (-2147483648) ≤ x_183.toInt := lx_183
          have ux_183 : x_183.toInt ≤ 2147483647 := ux_183
          have cx_183 := congrArg Int32.toInt ex_183
          exact W.iret (v := x_183) hx hb hr (fun t ht hW => ⟨⟨x_183, (σ_163, ρ_164), rfl, ⟨hB.2.1, hB.2.2, ⟨(show ((1 : Int32).toInt < 0 ∨ 3 < (1 : Int32).toInt) → σ_163 h0 22 = σ h0 22 ∧ σ_163 h0 21 = σ h0 21 from (fun h => absurd h (by decide))), (show (1 : Int32).toInt = 0 → ((σ bi 0).toInt = 0 → σ_163 h0 22 = σ h0 22 ∧ σ_163 h0 21 = σ h0 21) ∧ (¬ (σ bi 0).toInt = 0 → σ_163 h0 22 = σ bx 0 ∧ σ_163 h0 21 = σ bf 0) from (fun h => absurd h (by decide))), (show (1 : Int32).toInt = 1 → ((σ bi 1).toInt = 0 → σ_163 h0 22 = σ h0 22 ∧ σ_163 h0 21 = σ h0 21) ∧ (¬ (σ bi 1).toInt = 0 → σ_163 h0 22 = σ bx 1 ∧ σ_163 h0 21 = σ bf 1) from (fun _ => ⟨fun h => by exfalso; omega, fun _ => ⟨k_179, k_178⟩⟩)), (show (1 : Int32).toInt = 2 → ((σ bi 2).toInt = 0 → σ_163 h0 22 = σ h0 22 ∧ σ_163 h0 21 = σ h0 21) ∧ (¬ (σ bi 2).toInt = 0 → σ_163 h0 22 = σ bx 2 ∧ σ_163 h0 21 = σ bf 2) from (fun h => absurd h (by decide))), (show (1 : Int32).toInt = 3 → ((σ bi 3).toInt = 0 → σ_163 h0 22 = σ h0 22 ∧ σ_163 h0 21 = σ h0 21) ∧ (¬ (σ bi 3).toInt = 0 → σ_163 h0 22 = σ bx 3 ∧ σ_163 h0 21 = σ bf 3) from (fun h => absurd h (by decide)))⟩⟩, (show TP D cA L T r σ_163 ρ_164 t.heap from by rw [ht]; exact hB.1)⟩, hS.F ht⟩) hS.2.2 dX12_back_87
        · skip
          have uc_181 := i_nge (n := 201) (by decide) c_181
          refine lv_aload_n hx hb dX12_back_57 rfl (lv_at hl 1 rfl) ?_
          refine t_gr hx hb hts hown hK hG hB mh0 th0 fq_12_20 rfl mw_5_236 dX12_back_58 (fun b_184 hb_184 mb_184 tb_184 => ?_)
          refine lv_iload_n hx hb dX12_back_61 rfl (lv_at hl 0 rfl) ?_
          refine lv_aload_n hx hb dX12_back_62 rfl (lv_at hl 1 rfl) ?_
          refine t_gr hx hb hts hown hK hG hB mh0 th0 fq_12_40 rfl mw_6_16 dX12_back_63 (fun b_185 hb_185 mb_185 tb_185 => ?_)
          refine lv_sipush (v := 201) hx hb dX12_back_66 (by decide) ?_
          refine lv_iload_n hx hb dX12_back_69 rfl (lv_at hl 2 rfl) ?_
          refine lv_imul hx hb dX12_back_70 ?_
          refine tp_i (w := 201) (by decide) ?_
          refine lv_iload_n hx hb dX12_back_71 rfl (lv_at hl 0 rfl) ?_
          refine lv_iadd hx hb dX12_back_72 ?_
          refine lv_topi (fun x_186 ex_186 => ?_)
          have vx_186 := b_add (by decide : (201 : Int32).toInt = 201) (rfl : i_162.toInt = _) ex_186 (by omega) (by omega)
          refine t_aj hx hb hK hB mb_185 tb_185 ai_82 (i_in (by omega) (by omega)) dX12_back_73 (fun x_187 ex_187 lx_187 ux_187 => ?_)
          have ax_187 := lx_187
          have bx_187 := ux_187
          clear lx_187 ux_187
          have cx_187 := congrArg Int32.toInt ex_187
          refine t_si hx hb hK hLA hB hS mb_184 tb_184 ai_70 (i_in (by omega) (by omega)) (show (sb ((i_162 : Int32).toNatClampNeg)).1 ≤ _ by rw [(show (i_162 : Int32).toNatClampNeg = (x_186 : Int32).toNatClampNeg % 201 by have hn0 : (i_162 : Int32).toNatClampNeg = i_162.toInt.toNat := rfl; have hn1 : (x_186 : Int32).toNatClampNeg = x_186.toInt.toNat := rfl; omega)]; exact ax_187) (show _ ≤ (sb ((i_162 : Int32).toNatClampNeg)).2 by rw [(show (i_162 : Int32).toNatClampNeg = (x_186 : Int32).toNatClampNeg % 201 by have hn0 : (i_162 : Int32).toNatClampNeg = i_162.toInt.toNat := rfl; have hn1 : (x_186 : Int32).toNatClampNeg = x_186.toInt.toNat := rfl; omega)]; exact bx_187) (Or.inr (by decide)) dX12_back_74 (fun H locs σ_188 eσ_188 hB hS => ?_)
          have k_189 : σ_188 b_184 i_162.toNatClampNeg = x_187 := by rw [eσ_188]; exact up2_same _ _ _ _
          obtain ⟨x_190, ex_190⟩ : ∃ y : Int32, y = i_162 + 1 := ⟨_, rfl⟩
          have vx_190 := b_add (rfl : i_162.toInt = _) (by decide : (1 : Int32).toInt = 1) ex_190 (by omega) (by omega)
          refine lv_iinc (v := x_190) (lv' := [(2, .int x_190), (0, .ref h0), (1, .int 1)]) hx hb dX12_back_75 hl (k := 0) rfl (by rw [ex_190]; rfl) (by decide) rfl (fun ls hl => ?_)
          refine lv_goto (tgt := 50) hx hb dX12_back_78 (by decide) ?_
          have k_191 : σ_188 bx 0 = (σ bx 0) := by rw [eσ_188, up2_nea _ _ (tg_ne tbx tb_184 (by decide))]; exact k_166
          have k_192 : σ_188 bi 0 = (σ bi 0) := by rw [eσ_188, up2_nea _ _ (tg_ne tbi tb_184 (by decide))]; exact k_167
          have k_193 : σ_188 bf 0 = (σ bf 0) := by rw [eσ_188, up2_nea _ _ (tg_ne tbf tb_184 (by decide))]; exact k_168
          have k_194 : σ_188 bx 1 = (σ bx 1) := by rw [eσ_188, up2_nea _ _ (tg_ne tbx tb_184 (by decide))]; exact k_169
          have k_195 : σ_188 bi 1 = (σ bi 1) := by rw [eσ_188, up2_nea _ _ (tg_ne tbi tb_184 (by decide))]; exact k_170
          have k_196 : σ_188 bf 1 = (σ bf 1) := by rw [eσ_188, up2_nea _ _ (tg_ne tbf tb_184 (by decide))]; exact k_171
          have k_197 : σ_188 bx 2 = (σ bx 2) := by rw [eσ_188, up2_nea _ _ (tg_ne tbx tb_184 (by decide))]; exact k_172
          have k_198 : σ_188 bi 2 = (σ bi 2) := by rw [eσ_188, up2_nea _ _ (tg_ne tbi tb_184 (by decide))]; exact k_173
          have k_199 : σ_188 bf 2 = (σ bf 2) := by rw [eσ_188, up2_nea _ _ (tg_ne tbf tb_184 (by decide))]; exact k_174
          have k_200 : σ_188 bx 3 = (σ bx 3) := by rw [eσ_188, up2_nea _ _ (tg_ne tbx tb_184 (by decide))]; exact k_175
          have k_201 : σ_188 bi 3 = (σ bi 3) := by rw [eσ_188, up2_nea _ _ (tg_ne tbi tb_184 (by decide))]; exact k_176
          have k_202 : σ_188 bf 3 = (σ bf 3) := by rw [eσ_188, up2_nea _ _ (tg_ne tbf tb_184 (by decide))]; exact k_177
          have k_203 : σ_188 h0 21 = (σ bf 1) := by rw [eσ_188, up2_nea _ _ (tg_ne th0 tb_184 (by decide))]; exact k_178
          have k_204 : σ_188 h0 22 = (σ bx 1) := by rw [eσ_188, up2_nea _ _ (tg_ne th0 tb_184 (by decide))]; exact k_179
          have k_205 : σ_188 h0 25 = 0 := by rw [eσ_188, up2_nea _ _ (tg_ne th0 tb_184 (by decide))]; exact k_180
          exact ih_165 ⟨x_190, σ_188, ρ_164⟩ _ _ _ ⟨(by omega), (by omega), k_191, k_192, k_193, k_194, k_195, k_196, k_197, k_198, k_199, k_200, k_201, k_202, k_203, k_204, k_205, hB, hS, lv_sub hl [0, 1, 2] rfl⟩ (by show (201 - x_190.toInt).toNat < (201 - i_162.toInt).toNat; omega)
      · skip
        have uc_114 := i_eq (n := 0) (by decide) c_114
        refine lv_iconst (v := (-1)) hx hb dX12_back_21 (by decide) ?_
        exact W.iret (v := (-1)) hx hb hr (fun t ht hW => ⟨⟨(-1), (σ, ρ_16), rfl, ⟨hB.2.1, hB.2.2, ⟨(show ((1 : Int32).toInt < 0 ∨ 3 < (1 : Int32).toInt) → σ h0 22 = σ h0 22 ∧ σ h0 21 = σ h0 21 from (fun h => absurd h (by decide))), (show (1 : Int32).toInt = 0 → ((σ bi 0).toInt = 0 → σ h0 22 = σ h0 22 ∧ σ h0 21 = σ h0 21) ∧ (¬ (σ bi 0).toInt = 0 → σ h0 22 = σ bx 0 ∧ σ h0 21 = σ bf 0) from (fun h => absurd h (by decide))), (show (1 : Int32).toInt = 1 → ((σ bi 1).toInt = 0 → σ h0 22 = σ h0 22 ∧ σ h0 21 = σ h0 21) ∧ (¬ (σ bi 1).toInt = 0 → σ h0 22 = σ bx 1 ∧ σ h0 21 = σ bf 1) from (fun _ => ⟨fun _ => ⟨rfl, rfl⟩, fun h => by exfalso; omega⟩)), (show (1 : Int32).toInt = 2 → ((σ bi 2).toInt = 0 → σ h0 22 = σ h0 22 ∧ σ h0 21 = σ h0 21) ∧ (¬ (σ bi 2).toInt = 0 → σ h0 22 = σ bx 2 ∧ σ h0 21 = σ bf 2) from (fun h => absurd h (by decide))), (show (1 : Int32).toInt = 3 → ((σ bi 3).toInt = 0 → σ h0 22 = σ h0 22 ∧ σ h0 21 = σ h0 21) ∧ (¬ (σ bi 3).toInt = 0 → σ h0 22 = σ bx 3 ∧ σ h0 21 = σ bf 3) from (fun h => absurd h (by decide)))⟩⟩, (show TP D cA L T r σ ρ_16 t.heap from by rw [ht]; exact hB.1)⟩, hS.F ht⟩) hS.2.2 dX12_back_22
    · skip
      have c_19x : p1 = 2 := i_is (by decide) c_19j
      subst c_19x
      refine lv_aload_n hx hb dX12_back_12 rfl (lv_at hl 0 rfl) ?_
      refine t_gk hx hb hts hown hK hB mh0 th0 fq_12_43 hbi mw_6_19 dX12_back_13 ?_
      refine lv_iload_n hx hb dX12_back_16 rfl (lv_at hl 1 rfl) ?_
      refine t_az hx hb hK hB mbi tbi ai_85 (fun _ => rfl) (i_in (by decide) (by decide)) dX12_back_17 (fun x_206 ex_206 lx_206 ux_206 => ?_)
      have qx_206 : x_206 = (σ bi 2) := ex_206.trans rfl
      have qx_206 := qx_206.symm
      subst qx_206
      refine lv_if_ne (tgt := 23) hx hb dX12_back_18 (by decide) (fun c_207 => ?_) (fun c_207 => ?_)
      · skip
        have uc_207 := i_ne (n := 0) (by decide) c_207
        refine lv_aload_n hx hb dX12_back_23 rfl (lv_at hl 0 rfl) ?_
        refine lv_aload_n hx hb dX12_back_24 rfl (lv_at hl 0 rfl) ?_
        refine t_gk hx hb hts hown hK hB mh0 th0 fq_12_41 hbf mw_6_17 dX12_back_25 ?_
        refine lv_iload_n hx hb dX12_back_28 rfl (lv_at hl 1 rfl) ?_
        refine t_ai hx hb hK hB mbf tbf ai_83 (fun _ => rfl) (i_in (by decide) (by decide)) dX12_back_29 (fun x_208 ex_208 lx_208 ux_208 => ?_)
        have qx_208 : x_208 = (σ bf 2) := ex_208.trans rfl
        have qx_208 := qx_208.symm
        subst qx_208
        refine t_pi hx hb hts hown hK hLA hB hS mh0 th0 fi_12_21 rfl rfl rfl (by first | omega | (subst_vars; omega)) (by first | omega | (subst_vars; omega)) (Or.inl (by decide)) mw_5_237 dX12_back_30 (fun H locs σ_209 eσ_209 hB hS => ?_)
        have k_210 : σ_209 h0 21 = (σ bf 2) := by rw [eσ_209]; exact up2_same _ _ _ _
        refine lv_aload_n hx hb dX12_back_33 rfl (lv_at hl 0 rfl) ?_
        refine lv_aload_n hx hb dX12_back_34 rfl (lv_at hl 0 rfl) ?_
        refine t_gk hx hb hts hown hK hB mh0 th0 fq_12_42 hbx mw_6_18 dX12_back_35 ?_
        refine lv_iload_n hx hb dX12_back_38 rfl (lv_at hl 1 rfl) ?_
        have k_211 : σ_209 bx 2 = (σ bx 2) := by rw [eσ_209, up2_nej _ _ (by decide)]
        refine t_ai hx hb hK hB mbx tbx ai_84 (fun _ => rfl) (i_in (by decide) (by decide)) dX12_back_39 (fun x_212 ex_212 lx_212 ux_212 => ?_)
        have qx_212 : x_212 = (σ bx 2) := ex_212.trans k_211
        have qx_212 := qx_212.symm
        subst qx_212
        refine t_pi hx hb hts hown hK hLA hB hS mh0 th0 fi_12_22 rfl rfl rfl (i_lo _) (i_hi _) (Or.inl (by decide)) mw_5_238 dX12_back_40 (fun H locs σ_213 eσ_213 hB hS => ?_)
        have k_214 : σ_213 h0 22 = (σ bx 2) := by rw [eσ_213]; exact up2_same _ _ _ _
        refine lv_aload_n hx hb dX12_back_43 rfl (lv_at hl 0 rfl) ?_
        refine lv_iconst (v := 0) hx hb dX12_back_44 (by decide) ?_
        refine t_pi hx hb hts hown hK hLA hB hS mh0 th0 fi_12_25 rfl rfl rfl (by decide) (by decide) (Or.inl (by decide)) mw_6_1 dX12_back_45 (fun H locs σ_215 eσ_215 hB hS => ?_)
        have k_216 : σ_215 h0 25 = 0 := by rw [eσ_215]; exact up2_same _ _ _ _
        refine lv_iconst (v := 0) hx hb dX12_back_48 (by decide) ?_
        refine lv_istore_n (lv' := [(2, .int 0), (0, .ref h0), (1, .int 2)]) hx hb dX12_back_49 rfl hl (by decide) rfl (fun ls hl => ?_)
        have k_217 : σ_209 bx 0 = (σ bx 0) := by rw [eσ_209, up2_nej _ _ (by decide)]
        have k_218 : σ_213 bx 0 = (σ bx 0) := by rw [eσ_213, up2_nej _ _ (by decide)]; exact k_217
        have k_219 : σ_215 bx 0 = (σ bx 0) := by rw [eσ_215, up2_nej _ _ (by decide)]; exact k_218
        have k_220 : σ_209 bi 0 = (σ bi 0) := by rw [eσ_209, up2_nej _ _ (by decide)]
        have k_221 : σ_213 bi 0 = (σ bi 0) := by rw [eσ_213, up2_nej _ _ (by decide)]; exact k_220
        have k_222 : σ_215 bi 0 = (σ bi 0) := by rw [eσ_215, up2_nej _ _ (by decide)]; exact k_221
        have k_223 : σ_209 bf 0 = (σ bf 0) := by rw [eσ_209, up2_nej _ _ (by decide)]
        have k_224 : σ_213 bf 0 = (σ bf 0) := by rw [eσ_213, up2_nej _ _ (by decide)]; exact k_223
        have k_225 : σ_215 bf 0 = (σ bf 0) := by rw [eσ_215, up2_nej _ _ (by decide)]; exact k_224
        have k_226 : σ_209 bx 1 = (σ bx 1) := by rw [eσ_209, up2_nej _ _ (by decide)]
        have k_227 : σ_213 bx 1 = (σ bx 1) := by rw [eσ_213, up2_nej _ _ (by decide)]; exact k_226
        have k_228 : σ_215 bx 1 = (σ bx 1) := by rw [eσ_215, up2_nej _ _ (by decide)]; exact k_227
        have k_229 : σ_209 bi 1 = (σ bi 1) := by rw [eσ_209, up2_nej _ _ (by decide)]
        have k_230 : σ_213 bi 1 = (σ bi 1) := by rw [eσ_213, up2_nej _ _ (by decide)]; exact k_229
        have k_231 : σ_215 bi 1 = (σ bi 1) := by rw [eσ_215, up2_nej _ _ (by decide)]; exact k_230
        have k_232 : σ_209 bf 1 = (σ bf 1) := by rw [eσ_209, up2_nej _ _ (by decide)]
        have k_233 : σ_213 bf 1 = (σ bf 1) := by rw [eσ_213, up2_nej _ _ (by decide)]; exact k_232
        have k_234 : σ_215 bf 1 = (σ bf 1) := by rw [eσ_215, up2_nej _ _ (by decide)]; exact k_233
        have k_235 : σ_213 bx 2 = (σ bx 2) := by rw [eσ_213, up2_nej _ _ (by decide)]; exact k_211
        have k_236 : σ_215 bx 2 = (σ bx 2) := by rw [eσ_215, up2_nej _ _ (by decide)]; exact k_235
        have k_237 : σ_209 bi 2 = (σ bi 2) := by rw [eσ_209, up2_nej _ _ (by decide)]
        have k_238 : σ_213 bi 2 = (σ bi 2) := by rw [eσ_213, up2_nej _ _ (by decide)]; exact k_237
        have k_239 : σ_215 bi 2 = (σ bi 2) := by rw [eσ_215, up2_nej _ _ (by decide)]; exact k_238
        have k_240 : σ_209 bf 2 = (σ bf 2) := by rw [eσ_209, up2_nej _ _ (by decide)]
        have k_241 : σ_213 bf 2 = (σ bf 2) := by rw [eσ_213, up2_nej _ _ (by decide)]; exact k_240
        have k_242 : σ_215 bf 2 = (σ bf 2) := by rw [eσ_215, up2_nej _ _ (by decide)]; exact k_241
        have k_243 : σ_209 bx 3 = (σ bx 3) := by rw [eσ_209, up2_nej _ _ (by decide)]
        have k_244 : σ_213 bx 3 = (σ bx 3) := by rw [eσ_213, up2_nej _ _ (by decide)]; exact k_243
        have k_245 : σ_215 bx 3 = (σ bx 3) := by rw [eσ_215, up2_nej _ _ (by decide)]; exact k_244
        have k_246 : σ_209 bi 3 = (σ bi 3) := by rw [eσ_209, up2_nej _ _ (by decide)]
        have k_247 : σ_213 bi 3 = (σ bi 3) := by rw [eσ_213, up2_nej _ _ (by decide)]; exact k_246
        have k_248 : σ_215 bi 3 = (σ bi 3) := by rw [eσ_215, up2_nej _ _ (by decide)]; exact k_247
        have k_249 : σ_209 bf 3 = (σ bf 3) := by rw [eσ_209, up2_nej _ _ (by decide)]
        have k_250 : σ_213 bf 3 = (σ bf 3) := by rw [eσ_213, up2_nej _ _ (by decide)]; exact k_249
        have k_251 : σ_215 bf 3 = (σ bf 3) := by rw [eσ_215, up2_nej _ _ (by decide)]; exact k_250
        have k_252 : σ_213 h0 21 = (σ bf 2) := by rw [eσ_213, up2_nej _ _ (by decide)]; exact k_210
        have k_253 : σ_215 h0 21 = (σ bf 2) := by rw [eσ_215, up2_nej _ _ (by decide)]; exact k_252
        have k_254 : σ_215 h0 22 = (σ bx 2) := by rw [eσ_215, up2_nej _ _ (by decide)]; exact k_214
        refine w_loop (α := Int32 × Sg × Lg) (fun (i_255, σ_256, ρ_257) H locs ls => 0 ≤ i_255.toInt ∧ i_255.toInt ≤ 201 ∧ σ_256 bx 0 = (σ bx 0) ∧ σ_256 bi 0 = (σ bi 0) ∧ σ_256 bf 0 = (σ bf 0) ∧ σ_256 bx 1 = (σ bx 1) ∧ σ_256 bi 1 = (σ bi 1) ∧ σ_256 bf 1 = (σ bf 1) ∧ σ_256 bx 2 = (σ bx 2) ∧ σ_256 bi 2 = (σ bi 2) ∧ σ_256 bf 2 = (σ bf 2) ∧ σ_256 bx 3 = (σ bx 3) ∧ σ_256 bi 3 = (σ bi 3) ∧ σ_256 bf 3 = (σ bf 3) ∧ σ_256 h0 21 = (σ bf 2) ∧ σ_256 h0 22 = (σ bx 2) ∧ σ_256 h0 25 = 0 ∧ TS D cA L T r ry [(12, 21), (12, 22), (12, 25), (70, 1000)] σ σ_256 ρ_257 H ∧ va_S (dm L s.heap.size) s.heap H locs ∧ lv_has ls 3 [(2, .int i_255), (0, .ref h0), (1, .int 2)]) (fun (i_255, σ_256, ρ_257) => (201 - i_255.toInt).toNat) ?_ ⟨0, σ_215, ρ_16⟩ ⟨(by decide), (by decide), k_219, k_222, k_225, k_228, k_231, k_234, k_236, k_239, k_242, k_245, k_248, k_251, k_253, k_254, k_216, hB, hS, lv_sub hl [0, 1, 2] rfl⟩
        rintro ⟨i_255, σ_256, ρ_257⟩ H locs ls ⟨li_255, ui_255, k_259, k_260, k_261, k_262, k_263, k_264, k_265, k_266, k_267, k_268, k_269, k_270, k_271, k_272, k_273, hB, hS, hl⟩ ih_258
        refine lv_iload_n hx hb dX12_back_50 rfl (lv_at hl 0 rfl) ?_
        refine lv_sipush (v := 201) hx hb dX12_back_51 (by decide) ?_
        refine lv_icmp_ge (tgt := 81) hx hb dX12_back_54 (by decide) (fun c_274 => ?_) (fun c_274 => ?_)
        · skip
          have uc_274 := i_ge (n := 201) (by decide) c_274
          refine lv_aload_n hx hb dX12_back_81 rfl (lv_at hl 1 rfl) ?_
          refine t_gr hx hb hts hown hK hG hB mh0 th0 fq_12_20 rfl mw_5_236 dX12_back_82 (fun b_275 hb_275 mb_275 tb_275 => ?_)
          refine lv_iconst (v := 4) hx hb dX12_back_85 (by decide) ?_
          refine t_aj hx hb hK hB mb_275 tb_275 ai_70 (i_in (by decide) (by decide)) dX12_back_86 (fun x_276 ex_276 lx_276 ux_276 => ?_)
          have ax_276 := lx_276
          have bx_276 := ux_276
          have lx_276 : (-2147483648) ≤ x_276.toInt := lx_276
          have ux_276 : x_276.toInt ≤ 2147483647 := ux_276
          have cx_276 := congrArg Int32.toInt ex_276
          exact W.iret (v := x_276) hx hb hr (fun t ht hW => ⟨⟨x_276, (σ_256, ρ_257), rfl, ⟨hB.2.1, hB.2.2, ⟨(show ((2 : Int32).toInt < 0 ∨ 3 < (2 : Int32).toInt) → σ_256 h0 22 = σ h0 22 ∧ σ_256 h0 21 = σ h0 21 from (fun h => absurd h (by decide))), (show (2 : Int32).toInt = 0 → ((σ bi 0).toInt = 0 → σ_256 h0 22 = σ h0 22 ∧ σ_256 h0 21 = σ h0 21) ∧ (¬ (σ bi 0).toInt = 0 → σ_256 h0 22 = σ bx 0 ∧ σ_256 h0 21 = σ bf 0) from (fun h => absurd h (by decide))), (show (2 : Int32).toInt = 1 → ((σ bi 1).toInt = 0 → σ_256 h0 22 = σ h0 22 ∧ σ_256 h0 21 = σ h0 21) ∧ (¬ (σ bi 1).toInt = 0 → σ_256 h0 22 = σ bx 1 ∧ σ_256 h0 21 = σ bf 1) from (fun h => absurd h (by decide))), (show (2 : Int32).toInt = 2 → ((σ bi 2).toInt = 0 → σ_256 h0 22 = σ h0 22 ∧ σ_256 h0 21 = σ h0 21) ∧ (¬ (σ bi 2).toInt = 0 → σ_256 h0 22 = σ bx 2 ∧ σ_256 h0 21 = σ bf 2) from (fun _ => ⟨fun h => by exfalso; omega, fun _ => ⟨k_272, k_271⟩⟩)), (show (2 : Int32).toInt = 3 → ((σ bi 3).toInt = 0 → σ_256 h0 22 = σ h0 22 ∧ σ_256 h0 21 = σ h0 21) ∧ (¬ (σ bi 3).toInt = 0 → σ_256 h0 22 = σ bx 3 ∧ σ_256 h0 21 = σ bf 3) from (fun h => absurd h (by decide)))⟩⟩, (show TP D cA L T r σ_256 ρ_257 t.heap from by rw [ht]; exact hB.1)⟩, hS.F ht⟩) hS.2.2 dX12_back_87
        · skip
          have uc_274 := i_nge (n := 201) (by decide) c_274
          refine lv_aload_n hx hb dX12_back_57 rfl (lv_at hl 1 rfl) ?_
          refine t_gr hx hb hts hown hK hG hB mh0 th0 fq_12_20 rfl mw_5_236 dX12_back_58 (fun b_277 hb_277 mb_277 tb_277 => ?_)
          refine lv_iload_n hx hb dX12_back_61 rfl (lv_at hl 0 rfl) ?_
          refine lv_aload_n hx hb dX12_back_62 rfl (lv_at hl 1 rfl) ?_
          refine t_gr hx hb hts hown hK hG hB mh0 th0 fq_12_40 rfl mw_6_16 dX12_back_63 (fun b_278 hb_278 mb_278 tb_278 => ?_)
          refine lv_sipush (v := 201) hx hb dX12_back_66 (by decide) ?_
          refine lv_iload_n hx hb dX12_back_69 rfl (lv_at hl 2 rfl) ?_
          refine lv_imul hx hb dX12_back_70 ?_
          refine tp_i (w := 402) (by decide) ?_
          refine lv_iload_n hx hb dX12_back_71 rfl (lv_at hl 0 rfl) ?_
          refine lv_iadd hx hb dX12_back_72 ?_
          refine lv_topi (fun x_279 ex_279 => ?_)
          have vx_279 := b_add (by decide : (402 : Int32).toInt = 402) (rfl : i_255.toInt = _) ex_279 (by omega) (by omega)
          refine t_aj hx hb hK hB mb_278 tb_278 ai_82 (i_in (by omega) (by omega)) dX12_back_73 (fun x_280 ex_280 lx_280 ux_280 => ?_)
          have ax_280 := lx_280
          have bx_280 := ux_280
          clear lx_280 ux_280
          have cx_280 := congrArg Int32.toInt ex_280
          refine t_si hx hb hK hLA hB hS mb_277 tb_277 ai_70 (i_in (by omega) (by omega)) (show (sb ((i_255 : Int32).toNatClampNeg)).1 ≤ _ by rw [(show (i_255 : Int32).toNatClampNeg = (x_279 : Int32).toNatClampNeg % 201 by have hn0 : (i_255 : Int32).toNatClampNeg = i_255.toInt.toNat := rfl; have hn1 : (x_279 : Int32).toNatClampNeg = x_279.toInt.toNat := rfl; omega)]; exact ax_280) (show _ ≤ (sb ((i_255 : Int32).toNatClampNeg)).2 by rw [(show (i_255 : Int32).toNatClampNeg = (x_279 : Int32).toNatClampNeg % 201 by have hn0 : (i_255 : Int32).toNatClampNeg = i_255.toInt.toNat := rfl; have hn1 : (x_279 : Int32).toNatClampNeg = x_279.toInt.toNat := rfl; omega)]; exact bx_280) (Or.inr (by decide)) dX12_back_74 (fun H locs σ_281 eσ_281 hB hS => ?_)
          have k_282 : σ_281 b_277 i_255.toNatClampNeg = x_280 := by rw [eσ_281]; exact up2_same _ _ _ _
          obtain ⟨x_283, ex_283⟩ : ∃ y : Int32, y = i_255 + 1 := ⟨_, rfl⟩
          have vx_283 := b_add (rfl : i_255.toInt = _) (by decide : (1 : Int32).toInt = 1) ex_283 (by omega) (by omega)
          refine lv_iinc (v := x_283) (lv' := [(2, .int x_283), (0, .ref h0), (1, .int 2)]) hx hb dX12_back_75 hl (k := 0) rfl (by rw [ex_283]; rfl) (by decide) rfl (fun ls hl => ?_)
          refine lv_goto (tgt := 50) hx hb dX12_back_78 (by decide) ?_
          have k_284 : σ_281 bx 0 = (σ bx 0) := by rw [eσ_281, up2_nea _ _ (tg_ne tbx tb_277 (by decide))]; exact k_259
          have k_285 : σ_281 bi 0 = (σ bi 0) := by rw [eσ_281, up2_nea _ _ (tg_ne tbi tb_277 (by decide))]; exact k_260
          have k_286 : σ_281 bf 0 = (σ bf 0) := by rw [eσ_281, up2_nea _ _ (tg_ne tbf tb_277 (by decide))]; exact k_261
          have k_287 : σ_281 bx 1 = (σ bx 1) := by rw [eσ_281, up2_nea _ _ (tg_ne tbx tb_277 (by decide))]; exact k_262
          have k_288 : σ_281 bi 1 = (σ bi 1) := by rw [eσ_281, up2_nea _ _ (tg_ne tbi tb_277 (by decide))]; exact k_263
          have k_289 : σ_281 bf 1 = (σ bf 1) := by rw [eσ_281, up2_nea _ _ (tg_ne tbf tb_277 (by decide))]; exact k_264
          have k_290 : σ_281 bx 2 = (σ bx 2) := by rw [eσ_281, up2_nea _ _ (tg_ne tbx tb_277 (by decide))]; exact k_265
          have k_291 : σ_281 bi 2 = (σ bi 2) := by rw [eσ_281, up2_nea _ _ (tg_ne tbi tb_277 (by decide))]; exact k_266
          have k_292 : σ_281 bf 2 = (σ bf 2) := by rw [eσ_281, up2_nea _ _ (tg_ne tbf tb_277 (by decide))]; exact k_267
          have k_293 : σ_281 bx 3 = (σ bx 3) := by rw [eσ_281, up2_nea _ _ (tg_ne tbx tb_277 (by decide))]; exact k_268
          have k_294 : σ_281 bi 3 = (σ bi 3) := by rw [eσ_281, up2_nea _ _ (tg_ne tbi tb_277 (by decide))]; exact k_269
          have k_295 : σ_281 bf 3 = (σ bf 3) := by rw [eσ_281, up2_nea _ _ (tg_ne tbf tb_277 (by decide))]; exact k_270
          have k_296 : σ_281 h0 21 = (σ bf 2) := by rw [eσ_281, up2_nea _ _ (tg_ne th0 tb_277 (by decide))]; exact k_271
          have k_297 : σ_281 h0 22 = (σ bx 2) := by rw [eσ_281, up2_nea _ _ (tg_ne th0 tb_277 (by decide))]; exact k_272
          have k_298 : σ_281 h0 25 = 0 := by rw [eσ_281, up2_nea _ _ (tg_ne th0 tb_277 (by decide))]; exact k_273
          exact ih_258 ⟨x_283, σ_281, ρ_257⟩ _ _ _ ⟨(by omega), (by omega), k_284, k_285, k_286, k_287, k_288, k_289, k_290, k_291, k_292, k_293, k_294, k_295, k_296, k_297, k_298, hB, hS, lv_sub hl [0, 1, 2] rfl⟩ (by show (201 - x_283.toInt).toNat < (201 - i_255.toInt).toNat; omega)
      · skip
        have uc_207 := i_eq (n := 0) (by decide) c_207
        refine lv_iconst (v := (-1)) hx hb dX12_back_21 (by decide) ?_
        exact W.iret (v := (-1)) hx hb hr (fun t ht hW => ⟨⟨(-1), (σ, ρ_16), rfl, ⟨hB.2.1, hB.2.2, ⟨(show ((2 : Int32).toInt < 0 ∨ 3 < (2 : Int32).toInt) → σ h0 22 = σ h0 22 ∧ σ h0 21 = σ h0 21 from (fun h => absurd h (by decide))), (show (2 : Int32).toInt = 0 → ((σ bi 0).toInt = 0 → σ h0 22 = σ h0 22 ∧ σ h0 21 = σ h0 21) ∧ (¬ (σ bi 0).toInt = 0 → σ h0 22 = σ bx 0 ∧ σ h0 21 = σ bf 0) from (fun h => absurd h (by decide))), (show (2 : Int32).toInt = 1 → ((σ bi 1).toInt = 0 → σ h0 22 = σ h0 22 ∧ σ h0 21 = σ h0 21) ∧ (¬ (σ bi 1).toInt = 0 → σ h0 22 = σ bx 1 ∧ σ h0 21 = σ bf 1) from (fun h => absurd h (by decide))), (show (2 : Int32).toInt = 2 → ((σ bi 2).toInt = 0 → σ h0 22 = σ h0 22 ∧ σ h0 21 = σ h0 21) ∧ (¬ (σ bi 2).toInt = 0 → σ h0 22 = σ bx 2 ∧ σ h0 21 = σ bf 2) from (fun _ => ⟨fun _ => ⟨rfl, rfl⟩, fun h => by exfalso; omega⟩)), (show (2 : Int32).toInt = 3 → ((σ bi 3).toInt = 0 → σ h0 22 = σ h0 22 ∧ σ h0 21 = σ h0 21) ∧ (¬ (σ bi 3).toInt = 0 → σ h0 22 = σ bx 3 ∧ σ h0 21 = σ bf 3) from (fun h => absurd h (by decide)))⟩⟩, (show TP D cA L T r σ ρ_16 t.heap from by rw [ht]; exact hB.1)⟩, hS.F ht⟩) hS.2.2 dX12_back_22
    · skip
      have c_19x : p1 = 3 := i_is (by decide) c_19j
      subst c_19x
      refine lv_aload_n hx hb dX12_back_12 rfl (lv_at hl 0 rfl) ?_
      refine t_gk hx hb hts hown hK hB mh0 th0 fq_12_43 hbi mw_6_19 dX12_back_13 ?_
      refine lv_iload_n hx hb dX12_back_16 rfl (lv_at hl 1 rfl) ?_
      refine t_az hx hb hK hB mbi tbi ai_85 (fun _ => rfl) (i_in (by decide) (by decide)) dX12_back_17 (fun x_299 ex_299 lx_299 ux_299 => ?_)
      have qx_299 : x_299 = (σ bi 3) := ex_299.trans rfl
      have qx_299 := qx_299.symm
      subst qx_299
      refine lv_if_ne (tgt := 23) hx hb dX12_back_18 (by decide) (fun c_300 => ?_) (fun c_300 => ?_)
      · skip
        have uc_300 := i_ne (n := 0) (by decide) c_300
        refine lv_aload_n hx hb dX12_back_23 rfl (lv_at hl 0 rfl) ?_
        refine lv_aload_n hx hb dX12_back_24 rfl (lv_at hl 0 rfl) ?_
        refine t_gk hx hb hts hown hK hB mh0 th0 fq_12_41 hbf mw_6_17 dX12_back_25 ?_
        refine lv_iload_n hx hb dX12_back_28 rfl (lv_at hl 1 rfl) ?_
        refine t_ai hx hb hK hB mbf tbf ai_83 (fun _ => rfl) (i_in (by decide) (by decide)) dX12_back_29 (fun x_301 ex_301 lx_301 ux_301 => ?_)
        have qx_301 : x_301 = (σ bf 3) := ex_301.trans rfl
        have qx_301 := qx_301.symm
        subst qx_301
        refine t_pi hx hb hts hown hK hLA hB hS mh0 th0 fi_12_21 rfl rfl rfl (by first | omega | (subst_vars; omega)) (by first | omega | (subst_vars; omega)) (Or.inl (by decide)) mw_5_237 dX12_back_30 (fun H locs σ_302 eσ_302 hB hS => ?_)
        have k_303 : σ_302 h0 21 = (σ bf 3) := by rw [eσ_302]; exact up2_same _ _ _ _
        refine lv_aload_n hx hb dX12_back_33 rfl (lv_at hl 0 rfl) ?_
        refine lv_aload_n hx hb dX12_back_34 rfl (lv_at hl 0 rfl) ?_
        refine t_gk hx hb hts hown hK hB mh0 th0 fq_12_42 hbx mw_6_18 dX12_back_35 ?_
        refine lv_iload_n hx hb dX12_back_38 rfl (lv_at hl 1 rfl) ?_
        have k_304 : σ_302 bx 3 = (σ bx 3) := by rw [eσ_302, up2_nej _ _ (by decide)]
        refine t_ai hx hb hK hB mbx tbx ai_84 (fun _ => rfl) (i_in (by decide) (by decide)) dX12_back_39 (fun x_305 ex_305 lx_305 ux_305 => ?_)
        have qx_305 : x_305 = (σ bx 3) := ex_305.trans k_304
        have qx_305 := qx_305.symm
        subst qx_305
        refine t_pi hx hb hts hown hK hLA hB hS mh0 th0 fi_12_22 rfl rfl rfl (i_lo _) (i_hi _) (Or.inl (by decide)) mw_5_238 dX12_back_40 (fun H locs σ_306 eσ_306 hB hS => ?_)
        have k_307 : σ_306 h0 22 = (σ bx 3) := by rw [eσ_306]; exact up2_same _ _ _ _
        refine lv_aload_n hx hb dX12_back_43 rfl (lv_at hl 0 rfl) ?_
        refine lv_iconst (v := 0) hx hb dX12_back_44 (by decide) ?_
        refine t_pi hx hb hts hown hK hLA hB hS mh0 th0 fi_12_25 rfl rfl rfl (by decide) (by decide) (Or.inl (by decide)) mw_6_1 dX12_back_45 (fun H locs σ_308 eσ_308 hB hS => ?_)
        have k_309 : σ_308 h0 25 = 0 := by rw [eσ_308]; exact up2_same _ _ _ _
        refine lv_iconst (v := 0) hx hb dX12_back_48 (by decide) ?_
        refine lv_istore_n (lv' := [(2, .int 0), (0, .ref h0), (1, .int 3)]) hx hb dX12_back_49 rfl hl (by decide) rfl (fun ls hl => ?_)
        have k_310 : σ_302 bx 0 = (σ bx 0) := by rw [eσ_302, up2_nej _ _ (by decide)]
        have k_311 : σ_306 bx 0 = (σ bx 0) := by rw [eσ_306, up2_nej _ _ (by decide)]; exact k_310
        have k_312 : σ_308 bx 0 = (σ bx 0) := by rw [eσ_308, up2_nej _ _ (by decide)]; exact k_311
        have k_313 : σ_302 bi 0 = (σ bi 0) := by rw [eσ_302, up2_nej _ _ (by decide)]
        have k_314 : σ_306 bi 0 = (σ bi 0) := by rw [eσ_306, up2_nej _ _ (by decide)]; exact k_313
        have k_315 : σ_308 bi 0 = (σ bi 0) := by rw [eσ_308, up2_nej _ _ (by decide)]; exact k_314
        have k_316 : σ_302 bf 0 = (σ bf 0) := by rw [eσ_302, up2_nej _ _ (by decide)]
        have k_317 : σ_306 bf 0 = (σ bf 0) := by rw [eσ_306, up2_nej _ _ (by decide)]; exact k_316
        have k_318 : σ_308 bf 0 = (σ bf 0) := by rw [eσ_308, up2_nej _ _ (by decide)]; exact k_317
        have k_319 : σ_302 bx 1 = (σ bx 1) := by rw [eσ_302, up2_nej _ _ (by decide)]
        have k_320 : σ_306 bx 1 = (σ bx 1) := by rw [eσ_306, up2_nej _ _ (by decide)]; exact k_319
        have k_321 : σ_308 bx 1 = (σ bx 1) := by rw [eσ_308, up2_nej _ _ (by decide)]; exact k_320
        have k_322 : σ_302 bi 1 = (σ bi 1) := by rw [eσ_302, up2_nej _ _ (by decide)]
        have k_323 : σ_306 bi 1 = (σ bi 1) := by rw [eσ_306, up2_nej _ _ (by decide)]; exact k_322
        have k_324 : σ_308 bi 1 = (σ bi 1) := by rw [eσ_308, up2_nej _ _ (by decide)]; exact k_323
        have k_325 : σ_302 bf 1 = (σ bf 1) := by rw [eσ_302, up2_nej _ _ (by decide)]
        have k_326 : σ_306 bf 1 = (σ bf 1) := by rw [eσ_306, up2_nej _ _ (by decide)]; exact k_325
        have k_327 : σ_308 bf 1 = (σ bf 1) := by rw [eσ_308, up2_nej _ _ (by decide)]; exact k_326
        have k_328 : σ_302 bx 2 = (σ bx 2) := by rw [eσ_302, up2_nej _ _ (by decide)]
        have k_329 : σ_306 bx 2 = (σ bx 2) := by rw [eσ_306, up2_nej _ _ (by decide)]; exact k_328
        have k_330 : σ_308 bx 2 = (σ bx 2) := by rw [eσ_308, up2_nej _ _ (by decide)]; exact k_329
        have k_331 : σ_302 bi 2 = (σ bi 2) := by rw [eσ_302, up2_nej _ _ (by decide)]
        have k_332 : σ_306 bi 2 = (σ bi 2) := by rw [eσ_306, up2_nej _ _ (by decide)]; exact k_331
        have k_333 : σ_308 bi 2 = (σ bi 2) := by rw [eσ_308, up2_nej _ _ (by decide)]; exact k_332
        have k_334 : σ_302 bf 2 = (σ bf 2) := by rw [eσ_302, up2_nej _ _ (by decide)]
        have k_335 : σ_306 bf 2 = (σ bf 2) := by rw [eσ_306, up2_nej _ _ (by decide)]; exact k_334
        have k_336 : σ_308 bf 2 = (σ bf 2) := by rw [eσ_308, up2_nej _ _ (by decide)]; exact k_335
        have k_337 : σ_306 bx 3 = (σ bx 3) := by rw [eσ_306, up2_nej _ _ (by decide)]; exact k_304
        have k_338 : σ_308 bx 3 = (σ bx 3) := by rw [eσ_308, up2_nej _ _ (by decide)]; exact k_337
        have k_339 : σ_302 bi 3 = (σ bi 3) := by rw [eσ_302, up2_nej _ _ (by decide)]
        have k_340 : σ_306 bi 3 = (σ bi 3) := by rw [eσ_306, up2_nej _ _ (by decide)]; exact k_339
        have k_341 : σ_308 bi 3 = (σ bi 3) := by rw [eσ_308, up2_nej _ _ (by decide)]; exact k_340
        have k_342 : σ_302 bf 3 = (σ bf 3) := by rw [eσ_302, up2_nej _ _ (by decide)]
        have k_343 : σ_306 bf 3 = (σ bf 3) := by rw [eσ_306, up2_nej _ _ (by decide)]; exact k_342
        have k_344 : σ_308 bf 3 = (σ bf 3) := by rw [eσ_308, up2_nej _ _ (by decide)]; exact k_343
        have k_345 : σ_306 h0 21 = (σ bf 3) := by rw [eσ_306, up2_nej _ _ (by decide)]; exact k_303
        have k_346 : σ_308 h0 21 = (σ bf 3) := by rw [eσ_308, up2_nej _ _ (by decide)]; exact k_345
        have k_347 : σ_308 h0 22 = (σ bx 3) := by rw [eσ_308, up2_nej _ _ (by decide)]; exact k_307
        refine w_loop (α := Int32 × Sg × Lg) (fun (i_348, σ_349, ρ_350) H locs ls => 0 ≤ i_348.toInt ∧ i_348.toInt ≤ 201 ∧ σ_349 bx 0 = (σ bx 0) ∧ σ_349 bi 0 = (σ bi 0) ∧ σ_349 bf 0 = (σ bf 0) ∧ σ_349 bx 1 = (σ bx 1) ∧ σ_349 bi 1 = (σ bi 1) ∧ σ_349 bf 1 = (σ bf 1) ∧ σ_349 bx 2 = (σ bx 2) ∧ σ_349 bi 2 = (σ bi 2) ∧ σ_349 bf 2 = (σ bf 2) ∧ σ_349 bx 3 = (σ bx 3) ∧ σ_349 bi 3 = (σ bi 3) ∧ σ_349 bf 3 = (σ bf 3) ∧ σ_349 h0 21 = (σ bf 3) ∧ σ_349 h0 22 = (σ bx 3) ∧ σ_349 h0 25 = 0 ∧ TS D cA L T r ry [(12, 21), (12, 22), (12, 25), (70, 1000)] σ σ_349 ρ_350 H ∧ va_S (dm L s.heap.size) s.heap H locs ∧ lv_has ls 3 [(2, .int i_348), (0, .ref h0), (1, .int 3)]) (fun (i_348, σ_349, ρ_350) => (201 - i_348.toInt).toNat) ?_ ⟨0, σ_308, ρ_16⟩ ⟨(by decide), (by decide), k_312, k_315, k_318, k_321, k_324, k_327, k_330, k_333, k_336, k_338, k_341, k_344, k_346, k_347, k_309, hB, hS, lv_sub hl [0, 1, 2] rfl⟩
        rintro ⟨i_348, σ_349, ρ_350⟩ H locs ls ⟨li_348, ui_348, k_352, k_353, k_354, k_355, k_356, k_357, k_358, k_359, k_360, k_361, k_362, k_363, k_364, k_365, k_366, hB, hS, hl⟩ ih_351
        refine lv_iload_n hx hb dX12_back_50 rfl (lv_at hl 0 rfl) ?_
        refine lv_sipush (v := 201) hx hb dX12_back_51 (by decide) ?_
        refine lv_icmp_ge (tgt := 81) hx hb dX12_back_54 (by decide) (fun c_367 => ?_) (fun c_367 => ?_)
        · skip
          have uc_367 := i_ge (n := 201) (by decide) c_367
          refine lv_aload_n hx hb dX12_back_81 rfl (lv_at hl 1 rfl) ?_
          refine t_gr hx hb hts hown hK hG hB mh0 th0 fq_12_20 rfl mw_5_236 dX12_back_82 (fun b_368 hb_368 mb_368 tb_368 => ?_)
          refine lv_iconst (v := 4) hx hb dX12_back_85 (by decide) ?_
          refine t_aj hx hb hK hB mb_368 tb_368 ai_70 (i_in (by decide) (by decide)) dX12_back_86 (fun x_369 ex_369 lx_369 ux_369 => ?_)
          have ax_369 := lx_369
          have bx_369 := ux_369
          have lx_369 : (-2147483648) ≤ x_369.toInt := lx_369
          have ux_369 : x_369.toInt ≤ 2147483647 := ux_369
          have cx_369 := congrArg Int32.toInt ex_369
          exact W.iret (v := x_369) hx hb hr (fun t ht hW => ⟨⟨x_369, (σ_349, ρ_350), rfl, ⟨hB.2.1, hB.2.2, ⟨(show ((3 : Int32).toInt < 0 ∨ 3 < (3 : Int32).toInt) → σ_349 h0 22 = σ h0 22 ∧ σ_349 h0 21 = σ h0 21 from (fun h => absurd h (by decide))), (show (3 : Int32).toInt = 0 → ((σ bi 0).toInt = 0 → σ_349 h0 22 = σ h0 22 ∧ σ_349 h0 21 = σ h0 21) ∧ (¬ (σ bi 0).toInt = 0 → σ_349 h0 22 = σ bx 0 ∧ σ_349 h0 21 = σ bf 0) from (fun h => absurd h (by decide))), (show (3 : Int32).toInt = 1 → ((σ bi 1).toInt = 0 → σ_349 h0 22 = σ h0 22 ∧ σ_349 h0 21 = σ h0 21) ∧ (¬ (σ bi 1).toInt = 0 → σ_349 h0 22 = σ bx 1 ∧ σ_349 h0 21 = σ bf 1) from (fun h => absurd h (by decide))), (show (3 : Int32).toInt = 2 → ((σ bi 2).toInt = 0 → σ_349 h0 22 = σ h0 22 ∧ σ_349 h0 21 = σ h0 21) ∧ (¬ (σ bi 2).toInt = 0 → σ_349 h0 22 = σ bx 2 ∧ σ_349 h0 21 = σ bf 2) from (fun h => absurd h (by decide))), (show (3 : Int32).toInt = 3 → ((σ bi 3).toInt = 0 → σ_349 h0 22 = σ h0 22 ∧ σ_349 h0 21 = σ h0 21) ∧ (¬ (σ bi 3).toInt = 0 → σ_349 h0 22 = σ bx 3 ∧ σ_349 h0 21 = σ bf 3) from (fun _ => ⟨fun h => by exfalso; omega, fun _ => ⟨k_365, k_364⟩⟩))⟩⟩, (show TP D cA L T r σ_349 ρ_350 t.heap from by rw [ht]; exact hB.1)⟩, hS.F ht⟩) hS.2.2 dX12_back_87
        · skip
          have uc_367 := i_nge (n := 201) (by decide) c_367
          refine lv_aload_n hx hb dX12_back_57 rfl (lv_at hl 1 rfl) ?_
          refine t_gr hx hb hts hown hK hG hB mh0 th0 fq_12_20 rfl mw_5_236 dX12_back_58 (fun b_370 hb_370 mb_370 tb_370 => ?_)
          refine lv_iload_n hx hb dX12_back_61 rfl (lv_at hl 0 rfl) ?_
          refine lv_aload_n hx hb dX12_back_62 rfl (lv_at hl 1 rfl) ?_
          refine t_gr hx hb hts hown hK hG hB mh0 th0 fq_12_40 rfl mw_6_16 dX12_back_63 (fun b_371 hb_371 mb_371 tb_371 => ?_)
          refine lv_sipush (v := 201) hx hb dX12_back_66 (by decide) ?_
          refine lv_iload_n hx hb dX12_back_69 rfl (lv_at hl 2 rfl) ?_
          refine lv_imul hx hb dX12_back_70 ?_
          refine tp_i (w := 603) (by decide) ?_
          refine lv_iload_n hx hb dX12_back_71 rfl (lv_at hl 0 rfl) ?_
          refine lv_iadd hx hb dX12_back_72 ?_
          refine lv_topi (fun x_372 ex_372 => ?_)
          have vx_372 := b_add (by decide : (603 : Int32).toInt = 603) (rfl : i_348.toInt = _) ex_372 (by omega) (by omega)
          refine t_aj hx hb hK hB mb_371 tb_371 ai_82 (i_in (by omega) (by omega)) dX12_back_73 (fun x_373 ex_373 lx_373 ux_373 => ?_)
          have ax_373 := lx_373
          have bx_373 := ux_373
          clear lx_373 ux_373
          have cx_373 := congrArg Int32.toInt ex_373
          refine t_si hx hb hK hLA hB hS mb_370 tb_370 ai_70 (i_in (by omega) (by omega)) (show (sb ((i_348 : Int32).toNatClampNeg)).1 ≤ _ by rw [(show (i_348 : Int32).toNatClampNeg = (x_372 : Int32).toNatClampNeg % 201 by have hn0 : (i_348 : Int32).toNatClampNeg = i_348.toInt.toNat := rfl; have hn1 : (x_372 : Int32).toNatClampNeg = x_372.toInt.toNat := rfl; omega)]; exact ax_373) (show _ ≤ (sb ((i_348 : Int32).toNatClampNeg)).2 by rw [(show (i_348 : Int32).toNatClampNeg = (x_372 : Int32).toNatClampNeg % 201 by have hn0 : (i_348 : Int32).toNatClampNeg = i_348.toInt.toNat := rfl; have hn1 : (x_372 : Int32).toNatClampNeg = x_372.toInt.toNat := rfl; omega)]; exact bx_373) (Or.inr (by decide)) dX12_back_74 (fun H locs σ_374 eσ_374 hB hS => ?_)
          have k_375 : σ_374 b_370 i_348.toNatClampNeg = x_373 := by rw [eσ_374]; exact up2_same _ _ _ _
          obtain ⟨x_376, ex_376⟩ : ∃ y : Int32, y = i_348 + 1 := ⟨_, rfl⟩
          have vx_376 := b_add (rfl : i_348.toInt = _) (by decide : (1 : Int32).toInt = 1) ex_376 (by omega) (by omega)
          refine lv_iinc (v := x_376) (lv' := [(2, .int x_376), (0, .ref h0), (1, .int 3)]) hx hb dX12_back_75 hl (k := 0) rfl (by rw [ex_376]; rfl) (by decide) rfl (fun ls hl => ?_)
          refine lv_goto (tgt := 50) hx hb dX12_back_78 (by decide) ?_
          have k_377 : σ_374 bx 0 = (σ bx 0) := by rw [eσ_374, up2_nea _ _ (tg_ne tbx tb_370 (by decide))]; exact k_352
          have k_378 : σ_374 bi 0 = (σ bi 0) := by rw [eσ_374, up2_nea _ _ (tg_ne tbi tb_370 (by decide))]; exact k_353
          have k_379 : σ_374 bf 0 = (σ bf 0) := by rw [eσ_374, up2_nea _ _ (tg_ne tbf tb_370 (by decide))]; exact k_354
          have k_380 : σ_374 bx 1 = (σ bx 1) := by rw [eσ_374, up2_nea _ _ (tg_ne tbx tb_370 (by decide))]; exact k_355
          have k_381 : σ_374 bi 1 = (σ bi 1) := by rw [eσ_374, up2_nea _ _ (tg_ne tbi tb_370 (by decide))]; exact k_356
          have k_382 : σ_374 bf 1 = (σ bf 1) := by rw [eσ_374, up2_nea _ _ (tg_ne tbf tb_370 (by decide))]; exact k_357
          have k_383 : σ_374 bx 2 = (σ bx 2) := by rw [eσ_374, up2_nea _ _ (tg_ne tbx tb_370 (by decide))]; exact k_358
          have k_384 : σ_374 bi 2 = (σ bi 2) := by rw [eσ_374, up2_nea _ _ (tg_ne tbi tb_370 (by decide))]; exact k_359
          have k_385 : σ_374 bf 2 = (σ bf 2) := by rw [eσ_374, up2_nea _ _ (tg_ne tbf tb_370 (by decide))]; exact k_360
          have k_386 : σ_374 bx 3 = (σ bx 3) := by rw [eσ_374, up2_nea _ _ (tg_ne tbx tb_370 (by decide))]; exact k_361
          have k_387 : σ_374 bi 3 = (σ bi 3) := by rw [eσ_374, up2_nea _ _ (tg_ne tbi tb_370 (by decide))]; exact k_362
          have k_388 : σ_374 bf 3 = (σ bf 3) := by rw [eσ_374, up2_nea _ _ (tg_ne tbf tb_370 (by decide))]; exact k_363
          have k_389 : σ_374 h0 21 = (σ bf 3) := by rw [eσ_374, up2_nea _ _ (tg_ne th0 tb_370 (by decide))]; exact k_364
          have k_390 : σ_374 h0 22 = (σ bx 3) := by rw [eσ_374, up2_nea _ _ (tg_ne th0 tb_370 (by decide))]; exact k_365
          have k_391 : σ_374 h0 25 = 0 := by rw [eσ_374, up2_nea _ _ (tg_ne th0 tb_370 (by decide))]; exact k_366
          exact ih_351 ⟨x_376, σ_374, ρ_350⟩ _ _ _ ⟨(by omega), (by omega), k_377, k_378, k_379, k_380, k_381, k_382, k_383, k_384, k_385, k_386, k_387, k_388, k_389, k_390, k_391, hB, hS, lv_sub hl [0, 1, 2] rfl⟩ (by show (201 - x_376.toInt).toNat < (201 - i_348.toInt).toNat; omega)
      · skip
        have uc_300 := i_eq (n := 0) (by decide) c_300
        refine lv_iconst (v := (-1)) hx hb dX12_back_21 (by decide) ?_
        exact W.iret (v := (-1)) hx hb hr (fun t ht hW => ⟨⟨(-1), (σ, ρ_16), rfl, ⟨hB.2.1, hB.2.2, ⟨(show ((3 : Int32).toInt < 0 ∨ 3 < (3 : Int32).toInt) → σ h0 22 = σ h0 22 ∧ σ h0 21 = σ h0 21 from (fun h => absurd h (by decide))), (show (3 : Int32).toInt = 0 → ((σ bi 0).toInt = 0 → σ h0 22 = σ h0 22 ∧ σ h0 21 = σ h0 21) ∧ (¬ (σ bi 0).toInt = 0 → σ h0 22 = σ bx 0 ∧ σ h0 21 = σ bf 0) from (fun h => absurd h (by decide))), (show (3 : Int32).toInt = 1 → ((σ bi 1).toInt = 0 → σ h0 22 = σ h0 22 ∧ σ h0 21 = σ h0 21) ∧ (¬ (σ bi 1).toInt = 0 → σ h0 22 = σ bx 1 ∧ σ h0 21 = σ bf 1) from (fun h => absurd h (by decide))), (show (3 : Int32).toInt = 2 → ((σ bi 2).toInt = 0 → σ h0 22 = σ h0 22 ∧ σ h0 21 = σ h0 21) ∧ (¬ (σ bi 2).toInt = 0 → σ h0 22 = σ bx 2 ∧ σ h0 21 = σ bf 2) from (fun h => absurd h (by decide))), (show (3 : Int32).toInt = 3 → ((σ bi 3).toInt = 0 → σ h0 22 = σ h0 22 ∧ σ h0 21 = σ h0 21) ∧ (¬ (σ bi 3).toInt = 0 → σ h0 22 = σ bx 3 ∧ σ h0 21 = σ bf 3) from (fun _ => ⟨fun _ => ⟨rfl, rfl⟩, fun h => by exfalso; omega⟩))⟩⟩, (show TP D cA L T r σ ρ_16 t.heap from by rw [ht]; exact hB.1)⟩, hS.F ht⟩) hS.2.2 dX12_back_22
def bt0 (m j : Int32) : Int := ((m >>> (j &&& 31)) &&& 1).toInt
set_option maxHeartbeats 4000000 in
set_option maxRecDepth 100000 in
theorem cz_X11_back (l : Launch) (D : va_G) (cA : Nat → ClassId) (L : List Nat) (T : Nat → Nat) (r : Rg) (hG : GR L T r) (hL : L.Nodup) (σ : Sg) (ρ : Lg) (hW : WT L ry T σ) (sz : Nat) (h0 : Nat) (mh0 : h0 ∈ L) (th0 : T h0 = 11) (p1 : Int32) (bw : Nat) (hbw : r h0 3 = some bw) (mbw : bw ∈ L) (tbw : T bw = 10) (ba : Nat) (hba : r h0 4 = some ba) (mba : ba ∈ L) (tba : T ba = 60) (w0 : Nat) (hw0 : r ba 0 = some w0) (mw0 : w0 ∈ L) (tw0 : T w0 = 13) (w1 : Nat) (hw1 : r ba 1 = some w1) (mw1 : w1 ∈ L) (tw1 : T w1 = 14) (w2 : Nat) (hw2 : r ba 2 = some w2) (mw2 : w2 ∈ L) (tw2 : T w2 = 15) (w3 : Nat) (hw3 : r ba 3 = some w3) (mw3 : w3 ∈ L) (tw3 : T w3 = 16) : Met l yX11_back (.code yX11_back cX11_back 2 (some .int) :: wsA) ({ frames := 4, cells := 0, slots := 0, locals := 163 }) (PR D cA L T r σ ρ sz [.ref h0, .int p1]) (QI D cA L T r ry [(2, 3), (3, 6), (3, 7), (3, 8), (3, 9), (3, 10), (5, 1), (8, 6), (8, 7), (10, 6), (10, 7), (10, 8), (33, 1000), (34, 1000), (35, 1000), (36, 1000), (37, 1000), (45, 1000), (46, 1000), (47, 1000), (48, 1000), (49, 1000), (50, 1000), (55, 1000), (56, 1000), (57, 1000), (58, 1000), (100, 6), (100, 7), (107, 1000), (108, 1000), (109, 1000), (110, 1000), (111, 1000), (112, 1000)] σ sz (fun x σ1 => ((p1.toInt < 0 ∨ 3 < p1.toInt) → σ1 bw 8 = σ bw 8) ∧ (p1.toInt = 0 → (bt0 (σ h0 11) 0 = 0 → σ1 bw 8 = σ bw 8) ∧ (¬ bt0 (σ h0 11) 0 = 0 → σ1 bw 8 = σ w0 8)) ∧ (p1.toInt = 1 → (bt0 (σ h0 11) 1 = 0 → σ1 bw 8 = σ bw 8) ∧ (¬ bt0 (σ h0 11) 1 = 0 → σ1 bw 8 = σ w1 8)) ∧ (p1.toInt = 2 → (bt0 (σ h0 11) 2 = 0 → σ1 bw 8 = σ bw 8) ∧ (¬ bt0 (σ h0 11) 2 = 0 → σ1 bw 8 = σ w2 8)) ∧ (p1.toInt = 3 → (bt0 (σ h0 11) 3 = 0 → σ1 bw 8 = σ bw 8) ∧ (¬ bt0 (σ h0 11) 3 = 0 → σ1 bw 8 = σ w3 8)))) 0 0 (dm L sz) := by
  refine Met.ofW (cc := cX11_back) (maxL := 2) (ret := (some .int)) (by decide) rfl ?_
  intro p e s m args below meth c s₁ B hml hv
  obtain ⟨rfl, hsz, hP, hK, hN⟩ := hv
  have hx := B.exec
  have hb := B.bytes
  have hr := B.returns
  have hts : ∀ w ∈ wsA, w.before _ s = true := fun w h => atoms_spec (ws := .code yX11_back cX11_back 2 (some .int) :: wsA) B.pre w (List.mem_cons_of_mem _ h)
  have hown : s.vm.findClass RX11 = some m.cls := findClass_of_methodNamed B.named
  subst hsz
  have hLA : LA (dm L s.heap.size) L := ⟨hL, fun a h => Or.inl h⟩
  have hA : ∀ q : Nat, s.heap.size ≤ q → dm L s.heap.size q := fun q h => Or.inr h
  have hS : va_S (dm L s.heap.size) s.heap s.heap [] := va_S.rf
  have hB : TS D cA L T r ry [(2, 3), (3, 6), (3, 7), (3, 8), (3, 9), (3, 10), (5, 1), (8, 6), (8, 7), (10, 6), (10, 7), (10, 8), (33, 1000), (34, 1000), (35, 1000), (36, 1000), (37, 1000), (45, 1000), (46, 1000), (47, 1000), (48, 1000), (49, 1000), (50, 1000), (55, 1000), (56, 1000), (57, 1000), (58, 1000), (100, 6), (100, 7), (107, 1000), (108, 1000), (109, 1000), (110, 1000), (111, 1000), (112, 1000)] σ σ ρ s.heap := ⟨hP, hW, FR.rf⟩
  have hl := lv_entry ([.ref h0, .int p1]) (n := 2) (Nat.le_of_ble_eq_true rfl)
  rw [lg_entry_eq]
  generalize (lg_sl ([.ref h0, .int p1]) ++ List.replicate (2 - (lg_sl ([.ref h0, .int p1])).length) Slot.unset).toArray = ls at hl ⊢
  have hl : lv_has ls 2 [(0, .ref h0), (1, .int p1)] := hl
  have w_1 : (-2147483648) ≤ (σ w0 8).toInt ∧ (σ w0 8).toInt ≤ 2147483647 := by have z := hB.2.1 w0 mw0 8; rw [tw0] at z; exact z
  have w_2 : (-2147483648) ≤ (σ w1 8).toInt ∧ (σ w1 8).toInt ≤ 2147483647 := by have z := hB.2.1 w1 mw1 8; rw [tw1] at z; exact z
  have w_3 : (-2147483648) ≤ (σ w2 8).toInt ∧ (σ w2 8).toInt ≤ 2147483647 := by have z := hB.2.1 w2 mw2 8; rw [tw2] at z; exact z
  have w_4 : (-2147483648) ≤ (σ w3 8).toInt ∧ (σ w3 8).toInt ≤ 2147483647 := by have z := hB.2.1 w3 mw3 8; rw [tw3] at z; exact z
  have w_5 : (-2147483648) ≤ (σ bw 8).toInt ∧ (σ bw 8).toInt ≤ 2147483647 := by have z := hB.2.1 bw mbw 8; rw [tbw] at z; exact z
  have w_6 : (-2147483648) ≤ (σ h0 11).toInt ∧ (σ h0 11).toInt ≤ 2147483647 := by have z := hB.2.1 h0 mh0 11; rw [th0] at z; exact z
  refine lv_iload_n hx hb dX11_back_0 rfl (lv_at hl 1 rfl) ?_
  refine lv_if_lt (tgt := 20) hx hb dX11_back_1 (by decide) (fun c_7 => ?_) (fun c_7 => ?_)
  · skip
    have uc_7 := i_lt (n := 0) (by decide) c_7
    refine lv_iconst (v := (-1)) hx hb dX11_back_20 (by decide) ?_
    exact W.iret (v := (-1)) hx hb hr (fun t ht hW => ⟨⟨(-1), (σ, ρ), rfl, ⟨hB.2.1, hB.2.2, ⟨(show (p1.toInt < 0 ∨ 3 < p1.toInt) → σ bw 8 = σ bw 8 from (fun _ => rfl)), (show p1.toInt = 0 → (bt0 (σ h0 11) 0 = 0 → σ bw 8 = σ bw 8) ∧ (¬ bt0 (σ h0 11) 0 = 0 → σ bw 8 = σ w0 8) from (fun h => by exfalso; omega)), (show p1.toInt = 1 → (bt0 (σ h0 11) 1 = 0 → σ bw 8 = σ bw 8) ∧ (¬ bt0 (σ h0 11) 1 = 0 → σ bw 8 = σ w1 8) from (fun h => by exfalso; omega)), (show p1.toInt = 2 → (bt0 (σ h0 11) 2 = 0 → σ bw 8 = σ bw 8) ∧ (¬ bt0 (σ h0 11) 2 = 0 → σ bw 8 = σ w2 8) from (fun h => by exfalso; omega)), (show p1.toInt = 3 → (bt0 (σ h0 11) 3 = 0 → σ bw 8 = σ bw 8) ∧ (¬ bt0 (σ h0 11) 3 = 0 → σ bw 8 = σ w3 8) from (fun h => by exfalso; omega))⟩⟩, (show TP D cA L T r σ ρ t.heap from by rw [ht]; exact hB.1)⟩, hS.F ht⟩) hS.2.2 dX11_back_21
  · skip
    have uc_7 := i_nlt (n := 0) (by decide) c_7
    refine lv_iload_n hx hb dX11_back_4 rfl (lv_at hl 1 rfl) ?_
    refine lv_iconst (v := 4) hx hb dX11_back_5 (by decide) ?_
    refine lv_icmp_ge (tgt := 20) hx hb dX11_back_6 (by decide) (fun c_8 => ?_) (fun c_8 => ?_)
    · skip
      have uc_8 := i_ge (n := 4) (by decide) c_8
      refine lv_iconst (v := (-1)) hx hb dX11_back_20 (by decide) ?_
      exact W.iret (v := (-1)) hx hb hr (fun t ht hW => ⟨⟨(-1), (σ, ρ), rfl, ⟨hB.2.1, hB.2.2, ⟨(show (p1.toInt < 0 ∨ 3 < p1.toInt) → σ bw 8 = σ bw 8 from (fun _ => rfl)), (show p1.toInt = 0 → (bt0 (σ h0 11) 0 = 0 → σ bw 8 = σ bw 8) ∧ (¬ bt0 (σ h0 11) 0 = 0 → σ bw 8 = σ w0 8) from (fun h => by exfalso; omega)), (show p1.toInt = 1 → (bt0 (σ h0 11) 1 = 0 → σ bw 8 = σ bw 8) ∧ (¬ bt0 (σ h0 11) 1 = 0 → σ bw 8 = σ w1 8) from (fun h => by exfalso; omega)), (show p1.toInt = 2 → (bt0 (σ h0 11) 2 = 0 → σ bw 8 = σ bw 8) ∧ (¬ bt0 (σ h0 11) 2 = 0 → σ bw 8 = σ w2 8) from (fun h => by exfalso; omega)), (show p1.toInt = 3 → (bt0 (σ h0 11) 3 = 0 → σ bw 8 = σ bw 8) ∧ (¬ bt0 (σ h0 11) 3 = 0 → σ bw 8 = σ w3 8) from (fun h => by exfalso; omega))⟩⟩, (show TP D cA L T r σ ρ t.heap from by rw [ht]; exact hB.1)⟩, hS.F ht⟩) hS.2.2 dX11_back_21
    · skip
      have uc_8 := i_nge (n := 4) (by decide) c_8
      rcases (show p1.toInt = 0 ∨ p1.toInt = 1 ∨ p1.toInt = 2 ∨ p1.toInt = 3 by omega) with c_9j | c_9j | c_9j | c_9j
      · skip
        have c_9x : p1 = 0 := i_is (by decide) c_9j
        subst c_9x
        refine lv_aload_n hx hb dX11_back_9 rfl (lv_at hl 0 rfl) ?_
        refine t_gv hx hb hts hown hK hB mh0 th0 fi_11_11 rfl mw_2_218 dX11_back_10 ?_
        refine lv_iload_n hx hb dX11_back_13 rfl (lv_at hl 1 rfl) ?_
        refine lv_ishr hx hb dX11_back_14 ?_
        refine lv_topi (fun x_10 ex_10 => ?_)
        refine lv_iconst (v := 1) hx hb dX11_back_15 (by decide) ?_
        refine lv_iand hx hb dX11_back_16 ?_
        refine lv_topi (fun x_11 ex_11 => ?_)
        obtain ⟨lx_11, ux_11⟩ := and_m 1 (n := 1) (by decide) (by decide) (by decide) ex_11
        refine lv_if_ne (tgt := 22) hx hb dX11_back_17 (by decide) (fun c_12 => ?_) (fun c_12 => ?_)
        · skip
          have uc_12 := i_ne (n := 0) (by decide) c_12
          refine lv_aload_n hx hb dX11_back_22 rfl (lv_at hl 0 rfl) ?_
          refine t_gk hx hb hts hown hK hB mh0 th0 fq_11_3 hbw mw_2_210 dX11_back_23 ?_
          refine lv_aload_n hx hb dX11_back_26 rfl (lv_at hl 0 rfl) ?_
          refine t_gk hx hb hts hown hK hB mh0 th0 fq_11_4 hba mw_2_211 dX11_back_27 ?_
          refine lv_iload_n hx hb dX11_back_30 rfl (lv_at hl 1 rfl) ?_
          refine t_ar (t' := 13) hx hb hK hG hB mba tba ar_60 (by decide) rfl (i_in (by decide) (by decide)) dX11_back_31 (fun b_14 hb_14 mb_14 tb_14 => ?_)
          obtain rfl : w0 = b_14 := Option.some.inj (hw0.symm.trans hb_14)
          refine t_cv (va_runV (As := [.ref w0]) (rest := []) ⟨hx, hb, hml, hown, hts⟩ (cy_X10_copyFrom_x_10_13 l D cA L T r hG hLA.1 σ ρ hB.2.1 _ bw mbw tbw w0 mw0 tw0) (cV hts mv_X10_copyFrom mw_5_201 rfl rfl ⟨Nat.le_of_ble_eq_true rfl, Nat.le_of_ble_eq_true rfl⟩) (pV hB.1 hK hN mbw tbw (show shp cA 10 _ _ _ = .inr (10, Fs10 _ _ _) from rfl) rfl) rfl rfl hl.1 rfl (lv_room (Nat.le_of_ble_eq_true rfl)) dX11_back_32 ⟨Nat.le_of_ble_eq_true rfl, Nat.le_of_ble_eq_true rfl⟩) hLA hA hB hS (by decide) (fun σ_15 ρ_16 H locs hB fσ_15 pσ_15 hS => ?_)
          refine lv_aload_n hx hb dX11_back_35 rfl (lv_at hl 0 rfl) ?_
          refine t_gr hx hb hts hown hK hG hB mh0 th0 fq_11_5 rfl mw_2_212 dX11_back_36 (fun b_18 hb_18 mb_18 tb_18 => ?_)
          refine t_cv (va_runV (As := []) (rest := []) ⟨hx, hb, hml, hown, hts⟩ (cy_X5_clear l D cA L T r hG hLA.1 σ_15 ρ_16 hB.2.1 _ b_18 mb_18 tb_18) (cV hts mv_X5_clear mw_4_6 rfl rfl ⟨Nat.le_of_ble_eq_true rfl, Nat.le_of_ble_eq_true rfl⟩) (pV hB.1 hK hN mb_18 tb_18 (show shp cA 5 _ _ _ = .inr (5, Fs5 _ _ _) from rfl) rfl) rfl rfl hl.1 rfl (lv_room (Nat.le_of_ble_eq_true rfl)) dX11_back_39 ⟨Nat.le_of_ble_eq_true rfl, Nat.le_of_ble_eq_true rfl⟩) hLA hA hB hS (by decide) (fun σ_19 ρ_20 H locs hB fσ_19 pσ_19 hS => ?_)
          refine lv_aload_n hx hb dX11_back_42 rfl (lv_at hl 0 rfl) ?_
          refine t_gr hx hb hts hown hK hG hB mh0 th0 fq_11_9 rfl mw_2_216 dX11_back_43 (fun b_22 hb_22 mb_22 tb_22 => ?_)
          refine t_cv (va_runV (As := []) (rest := []) ⟨hx, hb, hml, hown, hts⟩ (cy_X2_forget l D cA L T r hG hLA.1 σ_19 ρ_20 hB.2.1 _ b_22 mb_22 tb_22) (cV hts mv_X2_forget mw_4_10 rfl rfl ⟨Nat.le_of_ble_eq_true rfl, Nat.le_of_ble_eq_true rfl⟩) (pV hB.1 hK hN mb_22 tb_22 (show shp cA 2 _ _ _ = .inr (2, Fs2 _ _ _) from rfl) rfl) rfl rfl hl.1 rfl (lv_room (Nat.le_of_ble_eq_true rfl)) dX11_back_46 ⟨Nat.le_of_ble_eq_true rfl, Nat.le_of_ble_eq_true rfl⟩) hLA hA hB hS (by decide) (fun σ_23 ρ_24 H locs hB fσ_23 pσ_23 hS => ?_)
          refine lv_aload_n hx hb dX11_back_49 rfl (lv_at hl 0 rfl) ?_
          refine t_gk hx hb hts hown hK hB mh0 th0 fq_11_3 hbw mw_2_210 dX11_back_50 ?_
          refine t_gr hx hb hts hown hK hG hB mbw tbw fq_10_1 rfl mw_1_239 dX11_back_53 (fun b_26 hb_26 mb_26 tb_26 => ?_)
          refine t_gi hx hb hts hown hK hB mb_26 tb_26 fi_8_7 rfl mw_1_112 dX11_back_56 (fun x_27 ex_27 lx_27 ux_27 => ?_)
          have cx_27 := congrArg Int32.toInt ex_27
          have k_28 : σ_19 bw 8 = (σ w0 8) := (FR.at fσ_19 tbw (by decide)).trans pσ_15
          have k_29 : σ_23 bw 8 = (σ w0 8) := (FR.at fσ_23 tbw (by decide)).trans k_28
          exact W.iret (v := x_27) hx hb hr (fun t ht hW => ⟨⟨x_27, (σ_23, ρ_24), rfl, ⟨hB.2.1, hB.2.2, ⟨(show ((0 : Int32).toInt < 0 ∨ 3 < (0 : Int32).toInt) → σ_23 bw 8 = σ bw 8 from (fun h => absurd h (by decide))), (show (0 : Int32).toInt = 0 → (bt0 (σ h0 11) 0 = 0 → σ_23 bw 8 = σ bw 8) ∧ (¬ bt0 (σ h0 11) 0 = 0 → σ_23 bw 8 = σ w0 8) from (fun _ => ⟨fun h => absurd h (by have z : bt0 (σ h0 11) 0 = x_11.toInt := (by unfold bt0; rw [← ex_10, ← ex_11]); omega), fun _ => k_29⟩)), (show (0 : Int32).toInt = 1 → (bt0 (σ h0 11) 1 = 0 → σ_23 bw 8 = σ bw 8) ∧ (¬ bt0 (σ h0 11) 1 = 0 → σ_23 bw 8 = σ w1 8) from (fun h => absurd h (by decide))), (show (0 : Int32).toInt = 2 → (bt0 (σ h0 11) 2 = 0 → σ_23 bw 8 = σ bw 8) ∧ (¬ bt0 (σ h0 11) 2 = 0 → σ_23 bw 8 = σ w2 8) from (fun h => absurd h (by decide))), (show (0 : Int32).toInt = 3 → (bt0 (σ h0 11) 3 = 0 → σ_23 bw 8 = σ bw 8) ∧ (¬ bt0 (σ h0 11) 3 = 0 → σ_23 bw 8 = σ w3 8) from (fun h => absurd h (by decide)))⟩⟩, (show TP D cA L T r σ_23 ρ_24 t.heap from by rw [ht]; exact hB.1)⟩, hS.F ht⟩) hS.2.2 dX11_back_59
        · skip
          have uc_12 := i_eq (n := 0) (by decide) c_12
          refine lv_iconst (v := (-1)) hx hb dX11_back_20 (by decide) ?_
          exact W.iret (v := (-1)) hx hb hr (fun t ht hW => ⟨⟨(-1), (σ, ρ), rfl, ⟨hB.2.1, hB.2.2, ⟨(show ((0 : Int32).toInt < 0 ∨ 3 < (0 : Int32).toInt) → σ bw 8 = σ bw 8 from (fun h => absurd h (by decide))), (show (0 : Int32).toInt = 0 → (bt0 (σ h0 11) 0 = 0 → σ bw 8 = σ bw 8) ∧ (¬ bt0 (σ h0 11) 0 = 0 → σ bw 8 = σ w0 8) from (fun _ => ⟨fun _ => rfl, fun h => absurd (by have z : bt0 (σ h0 11) 0 = x_11.toInt := (by unfold bt0; rw [← ex_10, ← ex_11]); omega) h⟩)), (show (0 : Int32).toInt = 1 → (bt0 (σ h0 11) 1 = 0 → σ bw 8 = σ bw 8) ∧ (¬ bt0 (σ h0 11) 1 = 0 → σ bw 8 = σ w1 8) from (fun h => absurd h (by decide))), (show (0 : Int32).toInt = 2 → (bt0 (σ h0 11) 2 = 0 → σ bw 8 = σ bw 8) ∧ (¬ bt0 (σ h0 11) 2 = 0 → σ bw 8 = σ w2 8) from (fun h => absurd h (by decide))), (show (0 : Int32).toInt = 3 → (bt0 (σ h0 11) 3 = 0 → σ bw 8 = σ bw 8) ∧ (¬ bt0 (σ h0 11) 3 = 0 → σ bw 8 = σ w3 8) from (fun h => absurd h (by decide)))⟩⟩, (show TP D cA L T r σ ρ t.heap from by rw [ht]; exact hB.1)⟩, hS.F ht⟩) hS.2.2 dX11_back_21
      · skip
        have c_9x : p1 = 1 := i_is (by decide) c_9j
        subst c_9x
        refine lv_aload_n hx hb dX11_back_9 rfl (lv_at hl 0 rfl) ?_
        refine t_gv hx hb hts hown hK hB mh0 th0 fi_11_11 rfl mw_2_218 dX11_back_10 ?_
        refine lv_iload_n hx hb dX11_back_13 rfl (lv_at hl 1 rfl) ?_
        refine lv_ishr hx hb dX11_back_14 ?_
        refine lv_topi (fun x_30 ex_30 => ?_)
        refine lv_iconst (v := 1) hx hb dX11_back_15 (by decide) ?_
        refine lv_iand hx hb dX11_back_16 ?_
        refine lv_topi (fun x_31 ex_31 => ?_)
        obtain ⟨lx_31, ux_31⟩ := and_m 1 (n := 1) (by decide) (by decide) (by decide) ex_31
        refine lv_if_ne (tgt := 22) hx hb dX11_back_17 (by decide) (fun c_32 => ?_) (fun c_32 => ?_)
        · skip
          have uc_32 := i_ne (n := 0) (by decide) c_32
          refine lv_aload_n hx hb dX11_back_22 rfl (lv_at hl 0 rfl) ?_
          refine t_gk hx hb hts hown hK hB mh0 th0 fq_11_3 hbw mw_2_210 dX11_back_23 ?_
          refine lv_aload_n hx hb dX11_back_26 rfl (lv_at hl 0 rfl) ?_
          refine t_gk hx hb hts hown hK hB mh0 th0 fq_11_4 hba mw_2_211 dX11_back_27 ?_
          refine lv_iload_n hx hb dX11_back_30 rfl (lv_at hl 1 rfl) ?_
          refine t_ar (t' := 14) hx hb hK hG hB mba tba ar_60 (by decide) rfl (i_in (by decide) (by decide)) dX11_back_31 (fun b_34 hb_34 mb_34 tb_34 => ?_)
          obtain rfl : w1 = b_34 := Option.some.inj (hw1.symm.trans hb_34)
          refine t_cv (va_runV (As := [.ref w1]) (rest := []) ⟨hx, hb, hml, hown, hts⟩ (cy_X10_copyFrom_x_10_14 l D cA L T r hG hLA.1 σ ρ hB.2.1 _ bw mbw tbw w1 mw1 tw1) (cV hts mv_X10_copyFrom mw_5_201 rfl rfl ⟨Nat.le_of_ble_eq_true rfl, Nat.le_of_ble_eq_true rfl⟩) (pV hB.1 hK hN mbw tbw (show shp cA 10 _ _ _ = .inr (10, Fs10 _ _ _) from rfl) rfl) rfl rfl hl.1 rfl (lv_room (Nat.le_of_ble_eq_true rfl)) dX11_back_32 ⟨Nat.le_of_ble_eq_true rfl, Nat.le_of_ble_eq_true rfl⟩) hLA hA hB hS (by decide) (fun σ_35 ρ_36 H locs hB fσ_35 pσ_35 hS => ?_)
          refine lv_aload_n hx hb dX11_back_35 rfl (lv_at hl 0 rfl) ?_
          refine t_gr hx hb hts hown hK hG hB mh0 th0 fq_11_5 rfl mw_2_212 dX11_back_36 (fun b_38 hb_38 mb_38 tb_38 => ?_)
          refine t_cv (va_runV (As := []) (rest := []) ⟨hx, hb, hml, hown, hts⟩ (cy_X5_clear l D cA L T r hG hLA.1 σ_35 ρ_36 hB.2.1 _ b_38 mb_38 tb_38) (cV hts mv_X5_clear mw_4_6 rfl rfl ⟨Nat.le_of_ble_eq_true rfl, Nat.le_of_ble_eq_true rfl⟩) (pV hB.1 hK hN mb_38 tb_38 (show shp cA 5 _ _ _ = .inr (5, Fs5 _ _ _) from rfl) rfl) rfl rfl hl.1 rfl (lv_room (Nat.le_of_ble_eq_true rfl)) dX11_back_39 ⟨Nat.le_of_ble_eq_true rfl, Nat.le_of_ble_eq_true rfl⟩) hLA hA hB hS (by decide) (fun σ_39 ρ_40 H locs hB fσ_39 pσ_39 hS => ?_)
          refine lv_aload_n hx hb dX11_back_42 rfl (lv_at hl 0 rfl) ?_
          refine t_gr hx hb hts hown hK hG hB mh0 th0 fq_11_9 rfl mw_2_216 dX11_back_43 (fun b_42 hb_42 mb_42 tb_42 => ?_)
          refine t_cv (va_runV (As := []) (rest := []) ⟨hx, hb, hml, hown, hts⟩ (cy_X2_forget l D cA L T r hG hLA.1 σ_39 ρ_40 hB.2.1 _ b_42 mb_42 tb_42) (cV hts mv_X2_forget mw_4_10 rfl rfl ⟨Nat.le_of_ble_eq_true rfl, Nat.le_of_ble_eq_true rfl⟩) (pV hB.1 hK hN mb_42 tb_42 (show shp cA 2 _ _ _ = .inr (2, Fs2 _ _ _) from rfl) rfl) rfl rfl hl.1 rfl (lv_room (Nat.le_of_ble_eq_true rfl)) dX11_back_46 ⟨Nat.le_of_ble_eq_true rfl, Nat.le_of_ble_eq_true rfl⟩) hLA hA hB hS (by decide) (fun σ_43 ρ_44 H locs hB fσ_43 pσ_43 hS => ?_)
          refine lv_aload_n hx hb dX11_back_49 rfl (lv_at hl 0 rfl) ?_
          refine t_gk hx hb hts hown hK hB mh0 th0 fq_11_3 hbw mw_2_210 dX11_back_50 ?_
          refine t_gr hx hb hts hown hK hG hB mbw tbw fq_10_1 rfl mw_1_239 dX11_back_53 (fun b_46 hb_46 mb_46 tb_46 => ?_)
          refine t_gi hx hb hts hown hK hB mb_46 tb_46 fi_8_7 rfl mw_1_112 dX11_back_56 (fun x_47 ex_47 lx_47 ux_47 => ?_)
          have cx_47 := congrArg Int32.toInt ex_47
          have k_48 : σ_39 bw 8 = (σ w1 8) := (FR.at fσ_39 tbw (by decide)).trans pσ_35
          have k_49 : σ_43 bw 8 = (σ w1 8) := (FR.at fσ_43 tbw (by decide)).trans k_48
          exact W.iret (v := x_47) hx hb hr (fun t ht hW => ⟨⟨x_47, (σ_43, ρ_44), rfl, ⟨hB.2.1, hB.2.2, ⟨(show ((1 : Int32).toInt < 0 ∨ 3 < (1 : Int32).toInt) → σ_43 bw 8 = σ bw 8 from (fun h => absurd h (by decide))), (show (1 : Int32).toInt = 0 → (bt0 (σ h0 11) 0 = 0 → σ_43 bw 8 = σ bw 8) ∧ (¬ bt0 (σ h0 11) 0 = 0 → σ_43 bw 8 = σ w0 8) from (fun h => absurd h (by decide))), (show (1 : Int32).toInt = 1 → (bt0 (σ h0 11) 1 = 0 → σ_43 bw 8 = σ bw 8) ∧ (¬ bt0 (σ h0 11) 1 = 0 → σ_43 bw 8 = σ w1 8) from (fun _ => ⟨fun h => absurd h (by have z : bt0 (σ h0 11) 1 = x_31.toInt := (by unfold bt0; rw [← ex_30, ← ex_31]); omega), fun _ => k_49⟩)), (show (1 : Int32).toInt = 2 → (bt0 (σ h0 11) 2 = 0 → σ_43 bw 8 = σ bw 8) ∧ (¬ bt0 (σ h0 11) 2 = 0 → σ_43 bw 8 = σ w2 8) from (fun h => absurd h (by decide))), (show (1 : Int32).toInt = 3 → (bt0 (σ h0 11) 3 = 0 → σ_43 bw 8 = σ bw 8) ∧ (¬ bt0 (σ h0 11) 3 = 0 → σ_43 bw 8 = σ w3 8) from (fun h => absurd h (by decide)))⟩⟩, (show TP D cA L T r σ_43 ρ_44 t.heap from by rw [ht]; exact hB.1)⟩, hS.F ht⟩) hS.2.2 dX11_back_59
        · skip
          have uc_32 := i_eq (n := 0) (by decide) c_32
          refine lv_iconst (v := (-1)) hx hb dX11_back_20 (by decide) ?_
          exact W.iret (v := (-1)) hx hb hr (fun t ht hW => ⟨⟨(-1), (σ, ρ), rfl, ⟨hB.2.1, hB.2.2, ⟨(show ((1 : Int32).toInt < 0 ∨ 3 < (1 : Int32).toInt) → σ bw 8 = σ bw 8 from (fun h => absurd h (by decide))), (show (1 : Int32).toInt = 0 → (bt0 (σ h0 11) 0 = 0 → σ bw 8 = σ bw 8) ∧ (¬ bt0 (σ h0 11) 0 = 0 → σ bw 8 = σ w0 8) from (fun h => absurd h (by decide))), (show (1 : Int32).toInt = 1 → (bt0 (σ h0 11) 1 = 0 → σ bw 8 = σ bw 8) ∧ (¬ bt0 (σ h0 11) 1 = 0 → σ bw 8 = σ w1 8) from (fun _ => ⟨fun _ => rfl, fun h => absurd (by have z : bt0 (σ h0 11) 1 = x_31.toInt := (by unfold bt0; rw [← ex_30, ← ex_31]); omega) h⟩)), (show (1 : Int32).toInt = 2 → (bt0 (σ h0 11) 2 = 0 → σ bw 8 = σ bw 8) ∧ (¬ bt0 (σ h0 11) 2 = 0 → σ bw 8 = σ w2 8) from (fun h => absurd h (by decide))), (show (1 : Int32).toInt = 3 → (bt0 (σ h0 11) 3 = 0 → σ bw 8 = σ bw 8) ∧ (¬ bt0 (σ h0 11) 3 = 0 → σ bw 8 = σ w3 8) from (fun h => absurd h (by decide)))⟩⟩, (show TP D cA L T r σ ρ t.heap from by rw [ht]; exact hB.1)⟩, hS.F ht⟩) hS.2.2 dX11_back_21
      · skip
        have c_9x : p1 = 2 := i_is (by decide) c_9j
        subst c_9x
        refine lv_aload_n hx hb dX11_back_9 rfl (lv_at hl 0 rfl) ?_
        refine t_gv hx hb hts hown hK hB mh0 th0 fi_11_11 rfl mw_2_218 dX11_back_10 ?_
        refine lv_iload_n hx hb dX11_back_13 rfl (lv_at hl 1 rfl) ?_
        refine lv_ishr hx hb dX11_back_14 ?_
        refine lv_topi (fun x_50 ex_50 => ?_)
        refine lv_iconst (v := 1) hx hb dX11_back_15 (by decide) ?_
        refine lv_iand hx hb dX11_back_16 ?_
        refine lv_topi (fun x_51 ex_51 => ?_)
        obtain ⟨lx_51, ux_51⟩ := and_m 1 (n := 1) (by decide) (by decide) (by decide) ex_51
        refine lv_if_ne (tgt := 22) hx hb dX11_back_17 (by decide) (fun c_52 => ?_) (fun c_52 => ?_)
        · skip
          have uc_52 := i_ne (n := 0) (by decide) c_52
          refine lv_aload_n hx hb dX11_back_22 rfl (lv_at hl 0 rfl) ?_
          refine t_gk hx hb hts hown hK hB mh0 th0 fq_11_3 hbw mw_2_210 dX11_back_23 ?_
          refine lv_aload_n hx hb dX11_back_26 rfl (lv_at hl 0 rfl) ?_
          refine t_gk hx hb hts hown hK hB mh0 th0 fq_11_4 hba mw_2_211 dX11_back_27 ?_
          refine lv_iload_n hx hb dX11_back_30 rfl (lv_at hl 1 rfl) ?_
          refine t_ar (t' := 15) hx hb hK hG hB mba tba ar_60 (by decide) rfl (i_in (by decide) (by decide)) dX11_back_31 (fun b_54 hb_54 mb_54 tb_54 => ?_)
          obtain rfl : w2 = b_54 := Option.some.inj (hw2.symm.trans hb_54)
          refine t_cv (va_runV (As := [.ref w2]) (rest := []) ⟨hx, hb, hml, hown, hts⟩ (cy_X10_copyFrom_x_10_15 l D cA L T r hG hLA.1 σ ρ hB.2.1 _ bw mbw tbw w2 mw2 tw2) (cV hts mv_X10_copyFrom mw_5_201 rfl rfl ⟨Nat.le_of_ble_eq_true rfl, Nat.le_of_ble_eq_true rfl⟩) (pV hB.1 hK hN mbw tbw (show shp cA 10 _ _ _ = .inr (10, Fs10 _ _ _) from rfl) rfl) rfl rfl hl.1 rfl (lv_room (Nat.le_of_ble_eq_true rfl)) dX11_back_32 ⟨Nat.le_of_ble_eq_true rfl, Nat.le_of_ble_eq_true rfl⟩) hLA hA hB hS (by decide) (fun σ_55 ρ_56 H locs hB fσ_55 pσ_55 hS => ?_)
          refine lv_aload_n hx hb dX11_back_35 rfl (lv_at hl 0 rfl) ?_
          refine t_gr hx hb hts hown hK hG hB mh0 th0 fq_11_5 rfl mw_2_212 dX11_back_36 (fun b_58 hb_58 mb_58 tb_58 => ?_)
          refine t_cv (va_runV (As := []) (rest := []) ⟨hx, hb, hml, hown, hts⟩ (cy_X5_clear l D cA L T r hG hLA.1 σ_55 ρ_56 hB.2.1 _ b_58 mb_58 tb_58) (cV hts mv_X5_clear mw_4_6 rfl rfl ⟨Nat.le_of_ble_eq_true rfl, Nat.le_of_ble_eq_true rfl⟩) (pV hB.1 hK hN mb_58 tb_58 (show shp cA 5 _ _ _ = .inr (5, Fs5 _ _ _) from rfl) rfl) rfl rfl hl.1 rfl (lv_room (Nat.le_of_ble_eq_true rfl)) dX11_back_39 ⟨Nat.le_of_ble_eq_true rfl, Nat.le_of_ble_eq_true rfl⟩) hLA hA hB hS (by decide) (fun σ_59 ρ_60 H locs hB fσ_59 pσ_59 hS => ?_)
          refine lv_aload_n hx hb dX11_back_42 rfl (lv_at hl 0 rfl) ?_
          refine t_gr hx hb hts hown hK hG hB mh0 th0 fq_11_9 rfl mw_2_216 dX11_back_43 (fun b_62 hb_62 mb_62 tb_62 => ?_)
          refine t_cv (va_runV (As := []) (rest := []) ⟨hx, hb, hml, hown, hts⟩ (cy_X2_forget l D cA L T r hG hLA.1 σ_59 ρ_60 hB.2.1 _ b_62 mb_62 tb_62) (cV hts mv_X2_forget mw_4_10 rfl rfl ⟨Nat.le_of_ble_eq_true rfl, Nat.le_of_ble_eq_true rfl⟩) (pV hB.1 hK hN mb_62 tb_62 (show shp cA 2 _ _ _ = .inr (2, Fs2 _ _ _) from rfl) rfl) rfl rfl hl.1 rfl (lv_room (Nat.le_of_ble_eq_true rfl)) dX11_back_46 ⟨Nat.le_of_ble_eq_true rfl, Nat.le_of_ble_eq_true rfl⟩) hLA hA hB hS (by decide) (fun σ_63 ρ_64 H locs hB fσ_63 pσ_63 hS => ?_)
          refine lv_aload_n hx hb dX11_back_49 rfl (lv_at hl 0 rfl) ?_
          refine t_gk hx hb hts hown hK hB mh0 th0 fq_11_3 hbw mw_2_210 dX11_back_50 ?_
          refine t_gr hx hb hts hown hK hG hB mbw tbw fq_10_1 rfl mw_1_239 dX11_back_53 (fun b_66 hb_66 mb_66 tb_66 => ?_)
          refine t_gi hx hb hts hown hK hB mb_66 tb_66 fi_8_7 rfl mw_1_112 dX11_back_56 (fun x_67 ex_67 lx_67 ux_67 => ?_)
          have cx_67 := congrArg Int32.toInt ex_67
          have k_68 : σ_59 bw 8 = (σ w2 8) := (FR.at fσ_59 tbw (by decide)).trans pσ_55
          have k_69 : σ_63 bw 8 = (σ w2 8) := (FR.at fσ_63 tbw (by decide)).trans k_68
          exact W.iret (v := x_67) hx hb hr (fun t ht hW => ⟨⟨x_67, (σ_63, ρ_64), rfl, ⟨hB.2.1, hB.2.2, ⟨(show ((2 : Int32).toInt < 0 ∨ 3 < (2 : Int32).toInt) → σ_63 bw 8 = σ bw 8 from (fun h => absurd h (by decide))), (show (2 : Int32).toInt = 0 → (bt0 (σ h0 11) 0 = 0 → σ_63 bw 8 = σ bw 8) ∧ (¬ bt0 (σ h0 11) 0 = 0 → σ_63 bw 8 = σ w0 8) from (fun h => absurd h (by decide))), (show (2 : Int32).toInt = 1 → (bt0 (σ h0 11) 1 = 0 → σ_63 bw 8 = σ bw 8) ∧ (¬ bt0 (σ h0 11) 1 = 0 → σ_63 bw 8 = σ w1 8) from (fun h => absurd h (by decide))), (show (2 : Int32).toInt = 2 → (bt0 (σ h0 11) 2 = 0 → σ_63 bw 8 = σ bw 8) ∧ (¬ bt0 (σ h0 11) 2 = 0 → σ_63 bw 8 = σ w2 8) from (fun _ => ⟨fun h => absurd h (by have z : bt0 (σ h0 11) 2 = x_51.toInt := (by unfold bt0; rw [← ex_50, ← ex_51]); omega), fun _ => k_69⟩)), (show (2 : Int32).toInt = 3 → (bt0 (σ h0 11) 3 = 0 → σ_63 bw 8 = σ bw 8) ∧ (¬ bt0 (σ h0 11) 3 = 0 → σ_63 bw 8 = σ w3 8) from (fun h => absurd h (by decide)))⟩⟩, (show TP D cA L T r σ_63 ρ_64 t.heap from by rw [ht]; exact hB.1)⟩, hS.F ht⟩) hS.2.2 dX11_back_59
        · skip
          have uc_52 := i_eq (n := 0) (by decide) c_52
          refine lv_iconst (v := (-1)) hx hb dX11_back_20 (by decide) ?_
          exact W.iret (v := (-1)) hx hb hr (fun t ht hW => ⟨⟨(-1), (σ, ρ), rfl, ⟨hB.2.1, hB.2.2, ⟨(show ((2 : Int32).toInt < 0 ∨ 3 < (2 : Int32).toInt) → σ bw 8 = σ bw 8 from (fun h => absurd h (by decide))), (show (2 : Int32).toInt = 0 → (bt0 (σ h0 11) 0 = 0 → σ bw 8 = σ bw 8) ∧ (¬ bt0 (σ h0 11) 0 = 0 → σ bw 8 = σ w0 8) from (fun h => absurd h (by decide))), (show (2 : Int32).toInt = 1 → (bt0 (σ h0 11) 1 = 0 → σ bw 8 = σ bw 8) ∧ (¬ bt0 (σ h0 11) 1 = 0 → σ bw 8 = σ w1 8) from (fun h => absurd h (by decide))), (show (2 : Int32).toInt = 2 → (bt0 (σ h0 11) 2 = 0 → σ bw 8 = σ bw 8) ∧ (¬ bt0 (σ h0 11) 2 = 0 → σ bw 8 = σ w2 8) from (fun _ => ⟨fun _ => rfl, fun h => absurd (by have z : bt0 (σ h0 11) 2 = x_51.toInt := (by unfold bt0; rw [← ex_50, ← ex_51]); omega) h⟩)), (show (2 : Int32).toInt = 3 → (bt0 (σ h0 11) 3 = 0 → σ bw 8 = σ bw 8) ∧ (¬ bt0 (σ h0 11) 3 = 0 → σ bw 8 = σ w3 8) from (fun h => absurd h (by decide)))⟩⟩, (show TP D cA L T r σ ρ t.heap from by rw [ht]; exact hB.1)⟩, hS.F ht⟩) hS.2.2 dX11_back_21
      · skip
        have c_9x : p1 = 3 := i_is (by decide) c_9j
        subst c_9x
        refine lv_aload_n hx hb dX11_back_9 rfl (lv_at hl 0 rfl) ?_
        refine t_gv hx hb hts hown hK hB mh0 th0 fi_11_11 rfl mw_2_218 dX11_back_10 ?_
        refine lv_iload_n hx hb dX11_back_13 rfl (lv_at hl 1 rfl) ?_
        refine lv_ishr hx hb dX11_back_14 ?_
        refine lv_topi (fun x_70 ex_70 => ?_)
        refine lv_iconst (v := 1) hx hb dX11_back_15 (by decide) ?_
        refine lv_iand hx hb dX11_back_16 ?_
        refine lv_topi (fun x_71 ex_71 => ?_)
        obtain ⟨lx_71, ux_71⟩ := and_m 1 (n := 1) (by decide) (by decide) (by decide) ex_71
        refine lv_if_ne (tgt := 22) hx hb dX11_back_17 (by decide) (fun c_72 => ?_) (fun c_72 => ?_)
        · skip
          have uc_72 := i_ne (n := 0) (by decide) c_72
          refine lv_aload_n hx hb dX11_back_22 rfl (lv_at hl 0 rfl) ?_
          refine t_gk hx hb hts hown hK hB mh0 th0 fq_11_3 hbw mw_2_210 dX11_back_23 ?_
          refine lv_aload_n hx hb dX11_back_26 rfl (lv_at hl 0 rfl) ?_
          refine t_gk hx hb hts hown hK hB mh0 th0 fq_11_4 hba mw_2_211 dX11_back_27 ?_
          refine lv_iload_n hx hb dX11_back_30 rfl (lv_at hl 1 rfl) ?_
          refine t_ar (t' := 16) hx hb hK hG hB mba tba ar_60 (by decide) rfl (i_in (by decide) (by decide)) dX11_back_31 (fun b_74 hb_74 mb_74 tb_74 => ?_)
          obtain rfl : w3 = b_74 := Option.some.inj (hw3.symm.trans hb_74)
          refine t_cv (va_runV (As := [.ref w3]) (rest := []) ⟨hx, hb, hml, hown, hts⟩ (cy_X10_copyFrom_x_10_16 l D cA L T r hG hLA.1 σ ρ hB.2.1 _ bw mbw tbw w3 mw3 tw3) (cV hts mv_X10_copyFrom mw_5_201 rfl rfl ⟨Nat.le_of_ble_eq_true rfl, Nat.le_of_ble_eq_true rfl⟩) (pV hB.1 hK hN mbw tbw (show shp cA 10 _ _ _ = .inr (10, Fs10 _ _ _) from rfl) rfl) rfl rfl hl.1 rfl (lv_room (Nat.le_of_ble_eq_true rfl)) dX11_back_32 ⟨Nat.le_of_ble_eq_true rfl, Nat.le_of_ble_eq_true rfl⟩) hLA hA hB hS (by decide) (fun σ_75 ρ_76 H locs hB fσ_75 pσ_75 hS => ?_)
          refine lv_aload_n hx hb dX11_back_35 rfl (lv_at hl 0 rfl) ?_
          refine t_gr hx hb hts hown hK hG hB mh0 th0 fq_11_5 rfl mw_2_212 dX11_back_36 (fun b_78 hb_78 mb_78 tb_78 => ?_)
          refine t_cv (va_runV (As := []) (rest := []) ⟨hx, hb, hml, hown, hts⟩ (cy_X5_clear l D cA L T r hG hLA.1 σ_75 ρ_76 hB.2.1 _ b_78 mb_78 tb_78) (cV hts mv_X5_clear mw_4_6 rfl rfl ⟨Nat.le_of_ble_eq_true rfl, Nat.le_of_ble_eq_true rfl⟩) (pV hB.1 hK hN mb_78 tb_78 (show shp cA 5 _ _ _ = .inr (5, Fs5 _ _ _) from rfl) rfl) rfl rfl hl.1 rfl (lv_room (Nat.le_of_ble_eq_true rfl)) dX11_back_39 ⟨Nat.le_of_ble_eq_true rfl, Nat.le_of_ble_eq_true rfl⟩) hLA hA hB hS (by decide) (fun σ_79 ρ_80 H locs hB fσ_79 pσ_79 hS => ?_)
          refine lv_aload_n hx hb dX11_back_42 rfl (lv_at hl 0 rfl) ?_
          refine t_gr hx hb hts hown hK hG hB mh0 th0 fq_11_9 rfl mw_2_216 dX11_back_43 (fun b_82 hb_82 mb_82 tb_82 => ?_)
          refine t_cv (va_runV (As := []) (rest := []) ⟨hx, hb, hml, hown, hts⟩ (cy_X2_forget l D cA L T r hG hLA.1 σ_79 ρ_80 hB.2.1 _ b_82 mb_82 tb_82) (cV hts mv_X2_forget mw_4_10 rfl rfl ⟨Nat.le_of_ble_eq_true rfl, Nat.le_of_ble_eq_true rfl⟩) (pV hB.1 hK hN mb_82 tb_82 (show shp cA 2 _ _ _ = .inr (2, Fs2 _ _ _) from rfl) rfl) rfl rfl hl.1 rfl (lv_room (Nat.le_of_ble_eq_true rfl)) dX11_back_46 ⟨Nat.le_of_ble_eq_true rfl, Nat.le_of_ble_eq_true rfl⟩) hLA hA hB hS (by decide) (fun σ_83 ρ_84 H locs hB fσ_83 pσ_83 hS => ?_)
          refine lv_aload_n hx hb dX11_back_49 rfl (lv_at hl 0 rfl) ?_
          refine t_gk hx hb hts hown hK hB mh0 th0 fq_11_3 hbw mw_2_210 dX11_back_50 ?_
          refine t_gr hx hb hts hown hK hG hB mbw tbw fq_10_1 rfl mw_1_239 dX11_back_53 (fun b_86 hb_86 mb_86 tb_86 => ?_)
          refine t_gi hx hb hts hown hK hB mb_86 tb_86 fi_8_7 rfl mw_1_112 dX11_back_56 (fun x_87 ex_87 lx_87 ux_87 => ?_)
          have cx_87 := congrArg Int32.toInt ex_87
          have k_88 : σ_79 bw 8 = (σ w3 8) := (FR.at fσ_79 tbw (by decide)).trans pσ_75
          have k_89 : σ_83 bw 8 = (σ w3 8) := (FR.at fσ_83 tbw (by decide)).trans k_88
          exact W.iret (v := x_87) hx hb hr (fun t ht hW => ⟨⟨x_87, (σ_83, ρ_84), rfl, ⟨hB.2.1, hB.2.2, ⟨(show ((3 : Int32).toInt < 0 ∨ 3 < (3 : Int32).toInt) → σ_83 bw 8 = σ bw 8 from (fun h => absurd h (by decide))), (show (3 : Int32).toInt = 0 → (bt0 (σ h0 11) 0 = 0 → σ_83 bw 8 = σ bw 8) ∧ (¬ bt0 (σ h0 11) 0 = 0 → σ_83 bw 8 = σ w0 8) from (fun h => absurd h (by decide))), (show (3 : Int32).toInt = 1 → (bt0 (σ h0 11) 1 = 0 → σ_83 bw 8 = σ bw 8) ∧ (¬ bt0 (σ h0 11) 1 = 0 → σ_83 bw 8 = σ w1 8) from (fun h => absurd h (by decide))), (show (3 : Int32).toInt = 2 → (bt0 (σ h0 11) 2 = 0 → σ_83 bw 8 = σ bw 8) ∧ (¬ bt0 (σ h0 11) 2 = 0 → σ_83 bw 8 = σ w2 8) from (fun h => absurd h (by decide))), (show (3 : Int32).toInt = 3 → (bt0 (σ h0 11) 3 = 0 → σ_83 bw 8 = σ bw 8) ∧ (¬ bt0 (σ h0 11) 3 = 0 → σ_83 bw 8 = σ w3 8) from (fun _ => ⟨fun h => absurd h (by have z : bt0 (σ h0 11) 3 = x_71.toInt := (by unfold bt0; rw [← ex_70, ← ex_71]); omega), fun _ => k_89⟩))⟩⟩, (show TP D cA L T r σ_83 ρ_84 t.heap from by rw [ht]; exact hB.1)⟩, hS.F ht⟩) hS.2.2 dX11_back_59
        · skip
          have uc_72 := i_eq (n := 0) (by decide) c_72
          refine lv_iconst (v := (-1)) hx hb dX11_back_20 (by decide) ?_
          exact W.iret (v := (-1)) hx hb hr (fun t ht hW => ⟨⟨(-1), (σ, ρ), rfl, ⟨hB.2.1, hB.2.2, ⟨(show ((3 : Int32).toInt < 0 ∨ 3 < (3 : Int32).toInt) → σ bw 8 = σ bw 8 from (fun h => absurd h (by decide))), (show (3 : Int32).toInt = 0 → (bt0 (σ h0 11) 0 = 0 → σ bw 8 = σ bw 8) ∧ (¬ bt0 (σ h0 11) 0 = 0 → σ bw 8 = σ w0 8) from (fun h => absurd h (by decide))), (show (3 : Int32).toInt = 1 → (bt0 (σ h0 11) 1 = 0 → σ bw 8 = σ bw 8) ∧ (¬ bt0 (σ h0 11) 1 = 0 → σ bw 8 = σ w1 8) from (fun h => absurd h (by decide))), (show (3 : Int32).toInt = 2 → (bt0 (σ h0 11) 2 = 0 → σ bw 8 = σ bw 8) ∧ (¬ bt0 (σ h0 11) 2 = 0 → σ bw 8 = σ w2 8) from (fun h => absurd h (by decide))), (show (3 : Int32).toInt = 3 → (bt0 (σ h0 11) 3 = 0 → σ bw 8 = σ bw 8) ∧ (¬ bt0 (σ h0 11) 3 = 0 → σ bw 8 = σ w3 8) from (fun _ => ⟨fun _ => rfl, fun h => absurd (by have z : bt0 (σ h0 11) 3 = x_71.toInt := (by unfold bt0; rw [← ex_70, ← ex_71]); omega) h⟩))⟩⟩, (show TP D cA L T r σ ρ t.heap from by rw [ht]; exact hB.1)⟩, hS.F ht⟩) hS.2.2 dX11_back_21
