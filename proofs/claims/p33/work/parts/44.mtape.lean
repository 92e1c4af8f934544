set_option maxHeartbeats 4000000 in
set_option maxRecDepth 100000 in
theorem cz_X12_isLetter (l : Launch) (D : va_G) (cA : Nat → ClassId) (L : List Nat) (T : Nat → Nat) (r : Rg) (hG : GR L T r) (hL : L.Nodup) (σ : Sg) (ρ : Lg) (hW : WT L ry T σ) (sz : Nat) (h0 : Nat) (mh0 : h0 ∈ L) (th0 : T h0 = 12) (p1 : Int32) (bt : Nat) (hbt : r h0 0 = some bt) (mbt : bt ∈ L) (tbt : T bt = 61) (w0 : 0 ≤ p1.toInt) : Met l yX12_isLetter (.code yX12_isLetter cX12_isLetter 2 (some .boolean) :: wsA) ({ frames := 0, cells := 0, slots := 0, locals := 0 }) (PR D cA L T r σ ρ sz [.ref h0, .int p1]) (QI D cA L T r ry ([] : List (Nat × Nat)) σ sz (fun x σ1 => ((x.toInt = 0 ∨ x.toInt = 1) ∧ (x.toInt = 1 ↔ (p1.toInt < (σ1 h0 1).toInt ∧ 97 ≤ (σ1 bt p1.toNatClampNeg).toInt ∧ (σ1 bt p1.toNatClampNeg).toInt ≤ 122))))) 0 0 (dm L sz) := by
  refine Met.ofW (cc := cX12_isLetter) (maxL := 2) (ret := (some .boolean)) (by decide) rfl ?_
  intro p e s m args below meth c s₁ B hml hv
  obtain ⟨rfl, hsz, hP, hK, hN⟩ := hv
  have hx := B.exec
  have hb := B.bytes
  have hr := B.returns
  have hts : ∀ w ∈ wsA, w.before _ s = true := fun w h => atoms_spec (ws := .code yX12_isLetter cX12_isLetter 2 (some .boolean) :: wsA) B.pre w (List.mem_cons_of_mem _ h)
  have hown : s.vm.findClass RX12 = some m.cls := findClass_of_methodNamed B.named
  subst hsz
  have hLA : LA (dm L s.heap.size) L := ⟨hL, fun a h => Or.inl h⟩
  have hA : ∀ q : Nat, s.heap.size ≤ q → dm L s.heap.size q := fun q h => Or.inr h
  have hS : va_S (dm L s.heap.size) s.heap s.heap [] := va_S.rf
  have hB : TS D cA L T r ry ([] : List (Nat × Nat)) σ σ ρ s.heap := ⟨hP, hW, FR.rf⟩
  have hl := lv_entry ([.ref h0, .int p1]) (n := 2) (Nat.le_of_ble_eq_true rfl)
  rw [lg_entry_eq]
  generalize (lg_sl ([.ref h0, .int p1]) ++ List.replicate (2 - (lg_sl ([.ref h0, .int p1])).length) Slot.unset).toArray = ls at hl ⊢
  have hl : lv_has ls 2 [(0, .ref h0), (1, .int p1)] := hl
  have w_1 : 0 ≤ (σ h0 1).toInt ∧ (σ h0 1).toInt ≤ 400 := by have z := hB.2.1 h0 mh0 1; rw [th0] at z; exact z
  refine lv_iload_n hx hb dX12_isLetter_0 rfl (lv_at hl 1 rfl) ?_
  refine lv_aload_n hx hb dX12_isLetter_1 rfl (lv_at hl 0 rfl) ?_
  refine t_gv hx hb hts hown hK hB mh0 th0 fi_12_1 rfl mw_5_217 dX12_isLetter_2 ?_
  refine lv_icmp_ge (tgt := 34) hx hb dX12_isLetter_5 (by decide) (fun c_2 => ?_) (fun c_2 => ?_)
  · skip
    have uc_2 := j_le c_2
    refine lv_iconst (v := 0) hx hb dX12_isLetter_34 (by decide) ?_
    exact W.zret (v := 0) hx hb hr rfl (fun t ht hW => ⟨⟨0, (σ, ρ), rfl, ⟨hB.2.1, hB.2.2, (show ((0 : Int32).toInt = 0 ∨ (0 : Int32).toInt = 1) ∧ ((0 : Int32).toInt = 1 ↔ (p1.toInt < (σ h0 1).toInt ∧ 97 ≤ (σ bt p1.toNatClampNeg).toInt ∧ (σ bt p1.toNatClampNeg).toInt ≤ 122)) from ⟨Or.inl (by decide), ⟨fun h => absurd h (by decide), fun h => by exfalso; omega⟩⟩)⟩, (show TP D cA L T r σ ρ t.heap from by rw [ht]; exact hB.1)⟩, hS.F ht⟩) hS.2.2 dX12_isLetter_35
  · skip
    have uc_2 := j_nle c_2
    refine lv_aload_n hx hb dX12_isLetter_8 rfl (lv_at hl 0 rfl) ?_
    refine t_gk hx hb hts hown hK hB mh0 th0 fq_12_0 hbt mw_5_216 dX12_isLetter_9 ?_
    refine lv_iload_n hx hb dX12_isLetter_12 rfl (lv_at hl 1 rfl) ?_
    refine t_ab hx hb hK hB mbt tbt ai_61 (fun _ => rfl) (i_in (by omega) (by omega)) dX12_isLetter_13 (fun x_3 ex_3 lx_3 ux_3 => ?_)
    have cx_3 := congrArg Int32.toInt ex_3
    refine lv_bipush (v := 97) hx hb dX12_isLetter_14 (by decide) ?_
    refine lv_icmp_lt (tgt := 34) hx hb dX12_isLetter_16 (by decide) (fun c_4 => ?_) (fun c_4 => ?_)
    · skip
      have uc_4 := i_lt (n := 97) (by decide) c_4
      refine lv_iconst (v := 0) hx hb dX12_isLetter_34 (by decide) ?_
      exact W.zret (v := 0) hx hb hr rfl (fun t ht hW => ⟨⟨0, (σ, ρ), rfl, ⟨hB.2.1, hB.2.2, (show ((0 : Int32).toInt = 0 ∨ (0 : Int32).toInt = 1) ∧ ((0 : Int32).toInt = 1 ↔ (p1.toInt < (σ h0 1).toInt ∧ 97 ≤ (σ bt p1.toNatClampNeg).toInt ∧ (σ bt p1.toNatClampNeg).toInt ≤ 122)) from ⟨Or.inl (by decide), ⟨fun h => absurd h (by decide), fun h => by exfalso; omega⟩⟩)⟩, (show TP D cA L T r σ ρ t.heap from by rw [ht]; exact hB.1)⟩, hS.F ht⟩) hS.2.2 dX12_isLetter_35
    · skip
      have uc_4 := i_nlt (n := 97) (by decide) c_4
      refine lv_aload_n hx hb dX12_isLetter_19 rfl (lv_at hl 0 rfl) ?_
      refine t_gk hx hb hts hown hK hB mh0 th0 fq_12_0 hbt mw_5_216 dX12_isLetter_20 ?_
      refine lv_iload_n hx hb dX12_isLetter_23 rfl (lv_at hl 1 rfl) ?_
      refine t_ab hx hb hK hB mbt tbt ai_61 (fun _ => rfl) (i_in (by omega) (by omega)) dX12_isLetter_24 (fun x_5 ex_5 lx_5 ux_5 => ?_)
      have qx_5 : x_5 = x_3 := ex_5.trans ex_3.symm
      have qx_5 := qx_5.symm
      subst qx_5
      refine lv_bipush (v := 122) hx hb dX12_isLetter_25 (by decide) ?_
      refine lv_icmp_gt (tgt := 34) hx hb dX12_isLetter_27 (by decide) (fun c_6 => ?_) (fun c_6 => ?_)
      · skip
        have uc_6 := i_gt (n := 122) (by decide) c_6
        refine lv_iconst (v := 0) hx hb dX12_isLetter_34 (by decide) ?_
        exact W.zret (v := 0) hx hb hr rfl (fun t ht hW => ⟨⟨0, (σ, ρ), rfl, ⟨hB.2.1, hB.2.2, (show ((0 : Int32).toInt = 0 ∨ (0 : Int32).toInt = 1) ∧ ((0 : Int32).toInt = 1 ↔ (p1.toInt < (σ h0 1).toInt ∧ 97 ≤ (σ bt p1.toNatClampNeg).toInt ∧ (σ bt p1.toNatClampNeg).toInt ≤ 122)) from ⟨Or.inl (by decide), ⟨fun h => absurd h (by decide), fun h => by exfalso; omega⟩⟩)⟩, (show TP D cA L T r σ ρ t.heap from by rw [ht]; exact hB.1)⟩, hS.F ht⟩) hS.2.2 dX12_isLetter_35
      · skip
        have uc_6 := i_ngt (n := 122) (by decide) c_6
        refine lv_iconst (v := 1) hx hb dX12_isLetter_30 (by decide) ?_
        refine lv_goto (tgt := 35) hx hb dX12_isLetter_31 (by decide) ?_
        exact W.zret (v := 1) hx hb hr rfl (fun t ht hW => ⟨⟨1, (σ, ρ), rfl, ⟨hB.2.1, hB.2.2, (show ((1 : Int32).toInt = 0 ∨ (1 : Int32).toInt = 1) ∧ ((1 : Int32).toInt = 1 ↔ (p1.toInt < (σ h0 1).toInt ∧ 97 ≤ (σ bt p1.toNatClampNeg).toInt ∧ (σ bt p1.toNatClampNeg).toInt ≤ 122)) from ⟨Or.inr (by decide), ⟨fun _ => by omega, fun _ => by decide⟩⟩)⟩, (show TP D cA L T r σ ρ t.heap from by rw [ht]; exact hB.1)⟩, hS.F ht⟩) hS.2.2 dX12_isLetter_35
set_option maxHeartbeats 4000000 in
set_option maxRecDepth 100000 in
theorem cz_X12_isDigit (l : Launch) (D : va_G) (cA : Nat → ClassId) (L : List Nat) (T : Nat → Nat) (r : Rg) (hG : GR L T r) (hL : L.Nodup) (σ : Sg) (ρ : Lg) (hW : WT L ry T σ) (sz : Nat) (h0 : Nat) (mh0 : h0 ∈ L) (th0 : T h0 = 12) (p1 : Int32) (bt : Nat) (hbt : r h0 0 = some bt) (mbt : bt ∈ L) (tbt : T bt = 61) (w0 : 0 ≤ p1.toInt) : Met l yX12_isDigit (.code yX12_isDigit cX12_isDigit 2 (some .boolean) :: wsA) ({ frames := 0, cells := 0, slots := 0, locals := 0 }) (PR D cA L T r σ ρ sz [.ref h0, .int p1]) (QI D cA L T r ry ([] : List (Nat × Nat)) σ sz (fun x σ1 => ((x.toInt = 0 ∨ x.toInt = 1) ∧ (x.toInt = 1 ↔ (p1.toInt < (σ1 h0 1).toInt ∧ 48 ≤ (σ1 bt p1.toNatClampNeg).toInt ∧ (σ1 bt p1.toNatClampNeg).toInt ≤ 57))))) 0 0 (dm L sz) := by
  refine Met.ofW (cc := cX12_isDigit) (maxL := 2) (ret := (some .boolean)) (by decide) rfl ?_
  intro p e s m args below meth c s₁ B hml hv
  obtain ⟨rfl, hsz, hP, hK, hN⟩ := hv
  have hx := B.exec
  have hb := B.bytes
  have hr := B.returns
  have hts : ∀ w ∈ wsA, w.before _ s = true := fun w h => atoms_spec (ws := .code yX12_isDigit cX12_isDigit 2 (some .boolean) :: wsA) B.pre w (List.mem_cons_of_mem _ h)
  have hown : s.vm.findClass RX12 = some m.cls := findClass_of_methodNamed B.named
  subst hsz
  have hLA : LA (dm L s.heap.size) L := ⟨hL, fun a h => Or.inl h⟩
  have hA : ∀ q : Nat, s.heap.size ≤ q → dm L s.heap.size q := fun q h => Or.inr h
  have hS : va_S (dm L s.heap.size) s.heap s.heap [] := va_S.rf
  have hB : TS D cA L T r ry ([] : List (Nat × Nat)) σ σ ρ s.heap := ⟨hP, hW, FR.rf⟩
  have hl := lv_entry ([.ref h0, .int p1]) (n := 2) (Nat.le_of_ble_eq_true rfl)
  rw [lg_entry_eq]
  generalize (lg_sl ([.ref h0, .int p1]) ++ List.replicate (2 - (lg_sl ([.ref h0, .int p1])).length) Slot.unset).toArray = ls at hl ⊢
  have hl : lv_has ls 2 [(0, .ref h0), (1, .int p1)] := hl
  have w_1 : 0 ≤ (σ h0 1).toInt ∧ (σ h0 1).toInt ≤ 400 := by have z := hB.2.1 h0 mh0 1; rw [th0] at z; exact z
  refine lv_iload_n hx hb dX12_isDigit_0 rfl (lv_at hl 1 rfl) ?_
  refine lv_aload_n hx hb dX12_isDigit_1 rfl (lv_at hl 0 rfl) ?_
  refine t_gv hx hb hts hown hK hB mh0 th0 fi_12_1 rfl mw_5_217 dX12_isDigit_2 ?_
  refine lv_icmp_ge (tgt := 34) hx hb dX12_isDigit_5 (by decide) (fun c_2 => ?_) (fun c_2 => ?_)
  · skip
    have uc_2 := j_le c_2
    refine lv_iconst (v := 0) hx hb dX12_isDigit_34 (by decide) ?_
    exact W.zret (v := 0) hx hb hr rfl (fun t ht hW => ⟨⟨0, (σ, ρ), rfl, ⟨hB.2.1, hB.2.2, (show ((0 : Int32).toInt = 0 ∨ (0 : Int32).toInt = 1) ∧ ((0 : Int32).toInt = 1 ↔ (p1.toInt < (σ h0 1).toInt ∧ 48 ≤ (σ bt p1.toNatClampNeg).toInt ∧ (σ bt p1.toNatClampNeg).toInt ≤ 57)) from ⟨Or.inl (by decide), ⟨fun h => absurd h (by decide), fun h => by exfalso; omega⟩⟩)⟩, (show TP D cA L T r σ ρ t.heap from by rw [ht]; exact hB.1)⟩, hS.F ht⟩) hS.2.2 dX12_isDigit_35
  · skip
    have uc_2 := j_nle c_2
    refine lv_aload_n hx hb dX12_isDigit_8 rfl (lv_at hl 0 rfl) ?_
    refine t_gk hx hb hts hown hK hB mh0 th0 fq_12_0 hbt mw_5_216 dX12_isDigit_9 ?_
    refine lv_iload_n hx hb dX12_isDigit_12 rfl (lv_at hl 1 rfl) ?_
    refine t_ab hx hb hK hB mbt tbt ai_61 (fun _ => rfl) (i_in (by omega) (by omega)) dX12_isDigit_13 (fun x_3 ex_3 lx_3 ux_3 => ?_)
    have cx_3 := congrArg Int32.toInt ex_3
    refine lv_bipush (v := 48) hx hb dX12_isDigit_14 (by decide) ?_
    refine lv_icmp_lt (tgt := 34) hx hb dX12_isDigit_16 (by decide) (fun c_4 => ?_) (fun c_4 => ?_)
    · skip
      have uc_4 := i_lt (n := 48) (by decide) c_4
      refine lv_iconst (v := 0) hx hb dX12_isDigit_34 (by decide) ?_
      exact W.zret (v := 0) hx hb hr rfl (fun t ht hW => ⟨⟨0, (σ, ρ), rfl, ⟨hB.2.1, hB.2.2, (show ((0 : Int32).toInt = 0 ∨ (0 : Int32).toInt = 1) ∧ ((0 : Int32).toInt = 1 ↔ (p1.toInt < (σ h0 1).toInt ∧ 48 ≤ (σ bt p1.toNatClampNeg).toInt ∧ (σ bt p1.toNatClampNeg).toInt ≤ 57)) from ⟨Or.inl (by decide), ⟨fun h => absurd h (by decide), fun h => by exfalso; omega⟩⟩)⟩, (show TP D cA L T r σ ρ t.heap from by rw [ht]; exact hB.1)⟩, hS.F ht⟩) hS.2.2 dX12_isDigit_35
    · skip
      have uc_4 := i_nlt (n := 48) (by decide) c_4
      refine lv_aload_n hx hb dX12_isDigit_19 rfl (lv_at hl 0 rfl) ?_
      refine t_gk hx hb hts hown hK hB mh0 th0 fq_12_0 hbt mw_5_216 dX12_isDigit_20 ?_
      refine lv_iload_n hx hb dX12_isDigit_23 rfl (lv_at hl 1 rfl) ?_
      refine t_ab hx hb hK hB mbt tbt ai_61 (fun _ => rfl) (i_in (by omega) (by omega)) dX12_isDigit_24 (fun x_5 ex_5 lx_5 ux_5 => ?_)
      have qx_5 : x_5 = x_3 := ex_5.trans ex_3.symm
      have qx_5 := qx_5.symm
      subst qx_5
      refine lv_bipush (v := 57) hx hb dX12_isDigit_25 (by decide) ?_
      refine lv_icmp_gt (tgt := 34) hx hb dX12_isDigit_27 (by decide) (fun c_6 => ?_) (fun c_6 => ?_)
      · skip
        have uc_6 := i_gt (n := 57) (by decide) c_6
        refine lv_iconst (v := 0) hx hb dX12_isDigit_34 (by decide) ?_
        exact W.zret (v := 0) hx hb hr rfl (fun t ht hW => ⟨⟨0, (σ, ρ), rfl, ⟨hB.2.1, hB.2.2, (show ((0 : Int32).toInt = 0 ∨ (0 : Int32).toInt = 1) ∧ ((0 : Int32).toInt = 1 ↔ (p1.toInt < (σ h0 1).toInt ∧ 48 ≤ (σ bt p1.toNatClampNeg).toInt ∧ (σ bt p1.toNatClampNeg).toInt ≤ 57)) from ⟨Or.inl (by decide), ⟨fun h => absurd h (by decide), fun h => by exfalso; omega⟩⟩)⟩, (show TP D cA L T r σ ρ t.heap from by rw [ht]; exact hB.1)⟩, hS.F ht⟩) hS.2.2 dX12_isDigit_35
      · skip
        have uc_6 := i_ngt (n := 57) (by decide) c_6
        refine lv_iconst (v := 1) hx hb dX12_isDigit_30 (by decide) ?_
        refine lv_goto (tgt := 35) hx hb dX12_isDigit_31 (by decide) ?_
        exact W.zret (v := 1) hx hb hr rfl (fun t ht hW => ⟨⟨1, (σ, ρ), rfl, ⟨hB.2.1, hB.2.2, (show ((1 : Int32).toInt = 0 ∨ (1 : Int32).toInt = 1) ∧ ((1 : Int32).toInt = 1 ↔ (p1.toInt < (σ h0 1).toInt ∧ 48 ≤ (σ bt p1.toNatClampNeg).toInt ∧ (σ bt p1.toNatClampNeg).toInt ≤ 57)) from ⟨Or.inr (by decide), ⟨fun _ => by omega, fun _ => by decide⟩⟩)⟩, (show TP D cA L T r σ ρ t.heap from by rw [ht]; exact hB.1)⟩, hS.F ht⟩) hS.2.2 dX12_isDigit_35
set_option maxHeartbeats 4000000 in
set_option maxRecDepth 100000 in
theorem cz_X12_see (l : Launch) (D : va_G) (cA : Nat → ClassId) (L : List Nat) (T : Nat → Nat) (r : Rg) (hG : GR L T r) (hL : L.Nodup) (σ : Sg) (ρ : Lg) (hW : WT L ry T σ) (sz : Nat) (h0 : Nat) (mh0 : h0 ∈ L) (th0 : T h0 = 12) (bt : Nat) (hbt : r h0 0 = some bt) (mbt : bt ∈ L) (tbt : T bt = 61) : Met l yX12_see (.code yX12_see cX12_see 1 (some .int) :: wsA) ({ frames := 0, cells := 0, slots := 0, locals := 0 }) (PR D cA L T r σ ρ sz [.ref h0]) (QI D cA L T r ry [(12, 8)] σ sz (fun x σ1 => ((-1) ≤ x.toInt ∧ x.toInt ≤ 255) ∧ ((σ h0 8).toInt ≤ (σ1 h0 8).toInt) ∧ (0 ≤ x.toInt → ((σ1 h0 8).toInt < (σ1 h0 1).toInt ∧ (σ1 bt (σ1 h0 8).toNatClampNeg).toInt ≠ 32)) ∧ (((σ h0 8).toInt < (σ h0 1).toInt ∧ (σ bt (σ h0 8).toNatClampNeg).toInt ≠ 32) → (σ1 h0 8).toInt = (σ h0 8).toInt))) 0 0 (dm L sz) := by
  refine Met.ofW (cc := cX12_see) (maxL := 1) (ret := (some .int)) (by decide) rfl ?_
  intro p e s m args below meth c s₁ B hml hv
  obtain ⟨rfl, hsz, hP, hK, hN⟩ := hv
  have hx := B.exec
  have hb := B.bytes
  have hr := B.returns
  have hts : ∀ w ∈ wsA, w.before _ s = true := fun w h => atoms_spec (ws := .code yX12_see cX12_see 1 (some .int) :: wsA) B.pre w (List.mem_cons_of_mem _ h)
  have hown : s.vm.findClass RX12 = some m.cls := findClass_of_methodNamed B.named
  subst hsz
  have hLA : LA (dm L s.heap.size) L := ⟨hL, fun a h => Or.inl h⟩
  have hA : ∀ q : Nat, s.heap.size ≤ q → dm L s.heap.size q := fun q h => Or.inr h
  have hS : va_S (dm L s.heap.size) s.heap s.heap [] := va_S.rf
  have hB : TS D cA L T r ry [(12, 8)] σ σ ρ s.heap := ⟨hP, hW, FR.rf⟩
  have hl := lv_entry ([.ref h0]) (n := 1) (Nat.le_of_ble_eq_true rfl)
  rw [lg_entry_eq]
  generalize (lg_sl ([.ref h0]) ++ List.replicate (1 - (lg_sl ([.ref h0])).length) Slot.unset).toArray = ls at hl ⊢
  have hl : lv_has ls 1 [(0, .ref h0)] := hl
  have w_1 : 0 ≤ (σ h0 8).toInt ∧ (σ h0 8).toInt ≤ 400 := by have z := hB.2.1 h0 mh0 8; rw [th0] at z; exact z
  have w_2 : 0 ≤ (σ h0 1).toInt ∧ (σ h0 1).toInt ≤ 400 := by have z := hB.2.1 h0 mh0 1; rw [th0] at z; exact z
  refine w_loop (α := Sg × Lg) (fun (σ_3, ρ_4) H locs ls => σ_3 h0 1 = (σ h0 1) ∧ ((σ h0 8).toInt ≤ (σ_3 h0 8).toInt) ∧ (((σ h0 8).toInt < (σ h0 1).toInt ∧ (σ bt (σ h0 8).toNatClampNeg).toInt ≠ 32) → (σ_3 h0 8).toInt = (σ h0 8).toInt) ∧ TS D cA L T r ry [(12, 8)] σ σ_3 ρ_4 H ∧ va_S (dm L s.heap.size) s.heap H locs ∧ lv_has ls 1 [(0, .ref h0)]) (fun (σ_3, ρ_4) => (400 - (σ_3 h0 8).toInt).toNat) ?_ ⟨σ, ρ⟩ ⟨rfl, (by omega), (fun _ => rfl), hB, hS, lv_sub hl [0] rfl⟩
  rintro ⟨σ_3, ρ_4⟩ H locs ls ⟨k_6, g_7, g_8, hB, hS, hl⟩ ih_5
  have w_9 : 0 ≤ (σ_3 h0 8).toInt ∧ (σ_3 h0 8).toInt ≤ 400 := by have z := hB.2.1 h0 mh0 8; rw [th0] at z; exact z
  have cq_10 := congrArg Int32.toInt k_6
  have rb_11 := FR.row hB.2.2 tbt (fun j => by simp)
  have rb_11z := congrArg Int32.toInt (congrFun rb_11 (σ_3 h0 8).toNatClampNeg)
  refine lv_aload_n hx hb dX12_see_0 rfl (lv_at hl 0 rfl) ?_
  refine t_gv hx hb hts hown hK hB mh0 th0 fi_12_8 rfl mw_5_224 dX12_see_1 ?_
  refine lv_aload_n hx hb dX12_see_4 rfl (lv_at hl 0 rfl) ?_
  refine t_gv hx hb hts hown hK hB mh0 th0 fi_12_1 k_6 mw_5_217 dX12_see_5 ?_
  refine lv_icmp_ge (tgt := 38) hx hb dX12_see_8 (by decide) (fun c_12 => ?_) (fun c_12 => ?_)
  · skip
    have uc_12 := j_le c_12
    refine lv_aload_n hx hb dX12_see_38 rfl (lv_at hl 0 rfl) ?_
    refine t_gv hx hb hts hown hK hB mh0 th0 fi_12_8 rfl mw_5_224 dX12_see_39 ?_
    refine lv_aload_n hx hb dX12_see_42 rfl (lv_at hl 0 rfl) ?_
    refine t_gv hx hb hts hown hK hB mh0 th0 fi_12_1 k_6 mw_5_217 dX12_see_43 ?_
    refine lv_icmp_ge (tgt := 65) hx hb dX12_see_46 (by decide) (fun c_13 => ?_) (fun c_13 => ?_)
    · skip
      have uc_13 := j_le c_13
      refine lv_iconst (v := (-1)) hx hb dX12_see_65 (by decide) ?_
      exact W.iret (v := (-1)) hx hb hr (fun t ht hW => ⟨⟨(-1), (σ_3, ρ_4), rfl, ⟨hB.2.1, hB.2.2, ⟨(show (-1) ≤ ((-1) : Int32).toInt ∧ ((-1) : Int32).toInt ≤ 255 from ⟨by decide, by decide⟩), (show (σ h0 8).toInt ≤ (σ_3 h0 8).toInt from (by omega)), (show 0 ≤ ((-1) : Int32).toInt → ((σ_3 h0 8).toInt < (σ_3 h0 1).toInt ∧ (σ_3 bt (σ_3 h0 8).toNatClampNeg).toInt ≠ 32) from (fun h => absurd h (by decide))), (show ((σ h0 8).toInt < (σ h0 1).toInt ∧ (σ bt (σ h0 8).toNatClampNeg).toInt ≠ 32) → (σ_3 h0 8).toInt = (σ h0 8).toInt from g_8)⟩⟩, (show TP D cA L T r σ_3 ρ_4 t.heap from by rw [ht]; exact hB.1)⟩, hS.F ht⟩) hS.2.2 dX12_see_66
    · skip
      have uc_13 := j_nle c_13
      refine lv_aload_n hx hb dX12_see_49 rfl (lv_at hl 0 rfl) ?_
      refine t_gk hx hb hts hown hK hB mh0 th0 fq_12_0 hbt mw_5_216 dX12_see_50 ?_
      refine lv_aload_n hx hb dX12_see_53 rfl (lv_at hl 0 rfl) ?_
      refine t_gv hx hb hts hown hK hB mh0 th0 fi_12_8 rfl mw_5_224 dX12_see_54 ?_
      refine t_ab hx hb hK hB mbt tbt ai_61 (fun _ => rfl) (i_in (by omega) (by omega)) dX12_see_57 (fun x_14 ex_14 lx_14 ux_14 => ?_)
      have cx_14 := congrArg Int32.toInt ex_14
      refine lv_sipush (v := 255) hx hb dX12_see_58 (by decide) ?_
      refine lv_iand hx hb dX12_see_61 ?_
      refine lv_topi (fun x_15 ex_15 => ?_)
      obtain ⟨lx_15, ux_15⟩ := and_m 8 (n := 255) (by decide) (by decide) (by decide) ex_15
      refine lv_goto (tgt := 66) hx hb dX12_see_62 (by decide) ?_
      exact W.iret (v := x_15) hx hb hr (fun t ht hW => ⟨⟨x_15, (σ_3, ρ_4), rfl, ⟨hB.2.1, hB.2.2, ⟨(show (-1) ≤ (x_15 : Int32).toInt ∧ (x_15 : Int32).toInt ≤ 255 from ⟨by omega, by omega⟩), (show (σ h0 8).toInt ≤ (σ_3 h0 8).toInt from (by omega)), (show 0 ≤ (x_15 : Int32).toInt → ((σ_3 h0 8).toInt < (σ_3 h0 1).toInt ∧ (σ_3 bt (σ_3 h0 8).toNatClampNeg).toInt ≠ 32) from (fun h => by rw [k_6]; omega)), (show ((σ h0 8).toInt < (σ h0 1).toInt ∧ (σ bt (σ h0 8).toNatClampNeg).toInt ≠ 32) → (σ_3 h0 8).toInt = (σ h0 8).toInt from g_8)⟩⟩, (show TP D cA L T r σ_3 ρ_4 t.heap from by rw [ht]; exact hB.1)⟩, hS.F ht⟩) hS.2.2 dX12_see_66
  · skip
    have uc_12 := j_nle c_12
    refine lv_aload_n hx hb dX12_see_11 rfl (lv_at hl 0 rfl) ?_
    refine t_gk hx hb hts hown hK hB mh0 th0 fq_12_0 hbt mw_5_216 dX12_see_12 ?_
    refine lv_aload_n hx hb dX12_see_15 rfl (lv_at hl 0 rfl) ?_
    refine t_gv hx hb hts hown hK hB mh0 th0 fi_12_8 rfl mw_5_224 dX12_see_16 ?_
    refine t_ab hx hb hK hB mbt tbt ai_61 (fun _ => rfl) (i_in (by omega) (by omega)) dX12_see_19 (fun x_16 ex_16 lx_16 ux_16 => ?_)
    have cx_16 := congrArg Int32.toInt ex_16
    refine lv_bipush (v := 32) hx hb dX12_see_20 (by decide) ?_
    refine lv_icmp_ne (tgt := 38) hx hb dX12_see_22 (by decide) (fun c_17 => ?_) (fun c_17 => ?_)
    · skip
      have uc_17 := i_ne (n := 32) (by decide) c_17
      refine lv_aload_n hx hb dX12_see_38 rfl (lv_at hl 0 rfl) ?_
      refine t_gv hx hb hts hown hK hB mh0 th0 fi_12_8 rfl mw_5_224 dX12_see_39 ?_
      refine lv_aload_n hx hb dX12_see_42 rfl (lv_at hl 0 rfl) ?_
      refine t_gv hx hb hts hown hK hB mh0 th0 fi_12_1 k_6 mw_5_217 dX12_see_43 ?_
      refine lv_icmp_ge (tgt := 65) hx hb dX12_see_46 (by decide) (fun c_18 => ?_) (fun c_18 => ?_)
      · skip
        have uc_18 := j_le c_18
        refine lv_iconst (v := (-1)) hx hb dX12_see_65 (by decide) ?_
        exact W.iret (v := (-1)) hx hb hr (fun t ht hW => ⟨⟨(-1), (σ_3, ρ_4), rfl, ⟨hB.2.1, hB.2.2, ⟨(show (-1) ≤ ((-1) : Int32).toInt ∧ ((-1) : Int32).toInt ≤ 255 from ⟨by decide, by decide⟩), (show (σ h0 8).toInt ≤ (σ_3 h0 8).toInt from (by omega)), (show 0 ≤ ((-1) : Int32).toInt → ((σ_3 h0 8).toInt < (σ_3 h0 1).toInt ∧ (σ_3 bt (σ_3 h0 8).toNatClampNeg).toInt ≠ 32) from (fun h => absurd h (by decide))), (show ((σ h0 8).toInt < (σ h0 1).toInt ∧ (σ bt (σ h0 8).toNatClampNeg).toInt ≠ 32) → (σ_3 h0 8).toInt = (σ h0 8).toInt from g_8)⟩⟩, (show TP D cA L T r σ_3 ρ_4 t.heap from by rw [ht]; exact hB.1)⟩, hS.F ht⟩) hS.2.2 dX12_see_66
      · skip
        have uc_18 := j_nle c_18
        refine lv_aload_n hx hb dX12_see_49 rfl (lv_at hl 0 rfl) ?_
        refine t_gk hx hb hts hown hK hB mh0 th0 fq_12_0 hbt mw_5_216 dX12_see_50 ?_
        refine lv_aload_n hx hb dX12_see_53 rfl (lv_at hl 0 rfl) ?_
        refine t_gv hx hb hts hown hK hB mh0 th0 fi_12_8 rfl mw_5_224 dX12_see_54 ?_
        refine t_ab hx hb hK hB mbt tbt ai_61 (fun _ => rfl) (i_in (by omega) (by omega)) dX12_see_57 (fun x_19 ex_19 lx_19 ux_19 => ?_)
        have qx_19 : x_19 = x_16 := ex_19.trans ex_16.symm
        have qx_19 := qx_19.symm
        subst qx_19
        refine lv_sipush (v := 255) hx hb dX12_see_58 (by decide) ?_
        refine lv_iand hx hb dX12_see_61 ?_
        refine lv_topi (fun x_20 ex_20 => ?_)
        obtain ⟨lx_20, ux_20⟩ := and_m 8 (n := 255) (by decide) (by decide) (by decide) ex_20
        refine lv_goto (tgt := 66) hx hb dX12_see_62 (by decide) ?_
        exact W.iret (v := x_20) hx hb hr (fun t ht hW => ⟨⟨x_20, (σ_3, ρ_4), rfl, ⟨hB.2.1, hB.2.2, ⟨(show (-1) ≤ (x_20 : Int32).toInt ∧ (x_20 : Int32).toInt ≤ 255 from ⟨by omega, by omega⟩), (show (σ h0 8).toInt ≤ (σ_3 h0 8).toInt from (by omega)), (show 0 ≤ (x_20 : Int32).toInt → ((σ_3 h0 8).toInt < (σ_3 h0 1).toInt ∧ (σ_3 bt (σ_3 h0 8).toNatClampNeg).toInt ≠ 32) from (fun h => by rw [k_6]; omega)), (show ((σ h0 8).toInt < (σ h0 1).toInt ∧ (σ bt (σ h0 8).toNatClampNeg).toInt ≠ 32) → (σ_3 h0 8).toInt = (σ h0 8).toInt from g_8)⟩⟩, (show TP D cA L T r σ_3 ρ_4 t.heap from by rw [ht]; exact hB.1)⟩, hS.F ht⟩) hS.2.2 dX12_see_66
    · skip
      have uc_17 := i_eq (n := 32) (by decide) c_17
      refine lv_aload_n hx hb dX12_see_25 rfl (lv_at hl 0 rfl) ?_
      refine lv_dup hx hb dX12_see_26 rfl ?_
      refine t_gv hx hb hts hown hK hB mh0 th0 fi_12_8 rfl mw_5_224 dX12_see_27 ?_
      refine lv_iconst (v := 1) hx hb dX12_see_30 (by decide) ?_
      refine lv_iadd hx hb dX12_see_31 ?_
      refine lv_topi (fun x_21 ex_21 => ?_)
      have vx_21 := b_add (rfl : (σ_3 h0 8).toInt = _) (by decide : (1 : Int32).toInt = 1) ex_21 (by omega) (by omega)
      refine t_pi hx hb hts hown hK hLA hB hS mh0 th0 fi_12_8 rfl rfl rfl (by first | omega | (subst_vars; omega)) (by first | omega | (subst_vars; omega)) (Or.inl (by decide)) mw_5_224 dX12_see_32 (fun H locs σ_22 eσ_22 hB hS => ?_)
      have k_23 : σ_22 h0 8 = x_21 := by rw [eσ_22]; exact up2_same _ _ _ _
      refine lv_goto (tgt := 0) hx hb dX12_see_35 (by decide) ?_
      have k_24 : σ_22 h0 1 = (σ h0 1) := by rw [eσ_22, up2_nej _ _ (by decide)]; exact k_6
      exact ih_5 ⟨σ_22, ρ_4⟩ _ _ _ ⟨k_24, (by rw [k_23]; omega), (fun q => by exfalso; have e := g_8 q; have z := nb_c (f := σ bt) e; omega), hB, hS, lv_sub hl [0] rfl⟩ (by show (400 - (σ_22 h0 8).toInt).toNat < (400 - (σ_3 h0 8).toInt).toNat; rw [k_23]; omega)
set_option maxHeartbeats 4000000 in
set_option maxRecDepth 100000 in
theorem cz_X12_isWord (l : Launch) (D : va_G) (cA : Nat → ClassId) (L : List Nat) (T : Nat → Nat) (r : Rg) (hG : GR L T r) (hL : L.Nodup) (σ : Sg) (ρ : Lg) (hW : WT L ry T σ) (sz : Nat) (h0 : Nat) (mh0 : h0 ∈ L) (th0 : T h0 = 12) (p1 : Int64) (bt : Nat) (hbt : r h0 0 = some bt) (mbt : bt ∈ L) (tbt : T bt = 61) : Met l yX12_isWord (.code yX12_isWord cX12_isWord 6 (some .boolean) :: wsA) ({ frames := 1, cells := 0, slots := 0, locals := 21 }) (PR D cA L T r σ ρ sz [.ref h0, .long p1]) (QI D cA L T r ry [(12, 8)] σ sz (fun x σ1 => (0 ≤ x.toInt ∧ x.toInt ≤ 1) ∧ ((σ h0 8).toInt ≤ (σ1 h0 8).toInt) ∧ (x.toInt = 1 → ((σ1 h0 8).toInt < (σ1 h0 1).toInt ∧ 97 ≤ (σ1 bt (σ1 h0 8).toNatClampNeg).toInt ∧ (σ1 bt (σ1 h0 8).toNatClampNeg).toInt ≤ 122)) ∧ (((σ h0 8).toInt < (σ h0 1).toInt ∧ (σ bt (σ h0 8).toNatClampNeg).toInt ≠ 32) → (σ1 h0 8).toInt = (σ h0 8).toInt))) 0 0 (dm L sz) := by
  refine Met.ofW (cc := cX12_isWord) (maxL := 6) (ret := (some .boolean)) (by decide) rfl ?_
  intro p e s m args below meth c s₁ B hml hv
  obtain ⟨rfl, hsz, hP, hK, hN⟩ := hv
  have hx := B.exec
  have hb := B.bytes
  have hr := B.returns
  have hts : ∀ w ∈ wsA, w.before _ s = true := fun w h => atoms_spec (ws := .code yX12_isWord cX12_isWord 6 (some .boolean) :: wsA) B.pre w (List.mem_cons_of_mem _ h)
  have hown : s.vm.findClass RX12 = some m.cls := findClass_of_methodNamed B.named
  subst hsz
  have hLA : LA (dm L s.heap.size) L := ⟨hL, fun a h => Or.inl h⟩
  have hA : ∀ q : Nat, s.heap.size ≤ q → dm L s.heap.size q := fun q h => Or.inr h
  have hS : va_S (dm L s.heap.size) s.heap s.heap [] := va_S.rf
  have hB : TS D cA L T r ry [(12, 8)] σ σ ρ s.heap := ⟨hP, hW, FR.rf⟩
  have hl := lv_entry ([.ref h0, .long p1]) (n := 6) (Nat.le_of_ble_eq_true rfl)
  rw [lg_entry_eq]
  generalize (lg_sl ([.ref h0, .long p1]) ++ List.replicate (6 - (lg_sl ([.ref h0, .long p1])).length) Slot.unset).toArray = ls at hl ⊢
  have hl : lv_has ls 6 [(0, .ref h0), (1, .long p1)] := hl
  have w_1 : 0 ≤ (σ h0 8).toInt ∧ (σ h0 8).toInt ≤ 400 := by have z := hB.2.1 h0 mh0 8; rw [th0] at z; exact z
  have w_2 : 0 ≤ (σ h0 1).toInt ∧ (σ h0 1).toInt ≤ 400 := by have z := hB.2.1 h0 mh0 1; rw [th0] at z; exact z
  refine lv_aload_n hx hb dX12_isWord_0 rfl (lv_at hl 0 rfl) ?_
  refine t_ci (va_runV (As := []) (rest := []) ⟨hx, hb, hml, hown, hts⟩ (cz_X12_see l D cA L T r hG hLA.1 σ ρ hB.2.1 _ h0 mh0 th0 bt hbt mbt tbt) (cV hts mv_X12_see mw_6_134 rfl rfl ⟨Nat.le_of_ble_eq_true rfl, Nat.le_of_ble_eq_true rfl⟩) (pV hB.1 hK hN mh0 th0 (show shp cA 12 _ _ _ = .inr (12, Fs12 _ _ _) from rfl) rfl) rfl rfl hl.1 rfl (lv_room (Nat.le_of_ble_eq_true rfl)) dX12_isWord_1 ⟨Nat.le_of_ble_eq_true rfl, Nat.le_of_ble_eq_true rfl⟩) hLA hA hB hS (by decide) (fun x_5 σ_3 ρ_4 H locs hB fσ_3 pσ_3 hS => ?_)
  obtain ⟨g_6, g_7, g_8, g_9⟩ := pσ_3
  have w_10 : 0 ≤ (σ_3 h0 8).toInt ∧ (σ_3 h0 8).toInt ≤ 400 := by have z := hB.2.1 h0 mh0 8; rw [th0] at z; exact z
  obtain ⟨lx_5, ux_5⟩ := g_6
  refine lv_pop hx hb dX12_isWord_4 rfl ?_
  refine lv_lconst (v := 0) hx hb dX12_isWord_5 (by decide) ?_
  refine lv_lstore_n (lv' := [(3, .long 0), (0, .ref h0), (1, .long p1)]) hx hb dX12_isWord_6 rfl hl (by decide) rfl (fun ls hl => ?_)
  refine lv_iconst (v := 0) hx hb dX12_isWord_7 (by decide) ?_
  refine lv_istore (lv' := [(5, .int 0), (3, .long 0), (0, .ref h0), (1, .long p1)]) hx hb dX12_isWord_8 hl (by decide) rfl (fun ls hl => ?_)
  have k_11 : σ_3 h0 1 = (σ h0 1) := (FR.at fσ_3 th0 (by decide)).trans rfl
  refine w_loop (α := Int64 × Int32 × Sg × Lg) (fun (i_12, i_13, σ_14, ρ_15) H locs ls => 0 ≤ i_13.toInt ∧ i_13.toInt ≤ 400 ∧ σ_14 h0 1 = (σ h0 1) ∧ σ_14 h0 8 = (σ_3 h0 8) ∧ (1 ≤ i_13.toInt → ((σ_14 h0 8).toInt < (σ_14 h0 1).toInt ∧ 97 ≤ (σ_14 bt (σ_14 h0 8).toNatClampNeg).toInt ∧ (σ_14 bt (σ_14 h0 8).toNatClampNeg).toInt ≤ 122)) ∧ TS D cA L T r ry [(12, 8)] σ σ_14 ρ_15 H ∧ va_S (dm L s.heap.size) s.heap H locs ∧ lv_has ls 6 [(5, .int i_13), (3, .long i_12), (0, .ref h0), (1, .long p1)]) (fun (i_12, i_13, σ_14, ρ_15) => (400 - i_13.toInt).toNat) ?_ ⟨0, 0, σ_3, ρ_4⟩ ⟨(by decide), (by decide), k_11, rfl, (fun h => absurd h (by decide)), hB, hS, lv_sub hl [0, 1, 2, 3] rfl⟩
  rintro ⟨i_12, i_13, σ_14, ρ_15⟩ H locs ls ⟨li_13, ui_13, k_17, k_18, g_19, hB, hS, hl⟩ ih_16
  have cq_20 := congrArg Int32.toInt k_18
  have cq_21 := congrArg Int32.toInt k_17
  refine lv_aload_n hx hb dX12_isWord_10 rfl (lv_at hl 2 rfl) ?_
  refine lv_aload_n hx hb dX12_isWord_11 rfl (lv_at hl 2 rfl) ?_
  refine t_gv hx hb hts hown hK hB mh0 th0 fi_12_8 k_18 mw_5_224 dX12_isWord_12 ?_
  refine lv_iload hx hb dX12_isWord_15 (lv_at hl 0 rfl) ?_
  refine lv_iadd hx hb dX12_isWord_17 ?_
  refine lv_topi (fun x_22 ex_22 => ?_)
  have vx_22 := b_add (rfl : (σ_3 h0 8).toInt = _) (rfl : i_13.toInt = _) ex_22 (by omega) (by omega)
  refine t_ci (va_runV (As := [.int x_22]) (rest := []) ⟨hx, hb, hml, hown, hts⟩ (cz_X12_isLetter l D cA L T r hG hLA.1 σ_14 ρ_15 hB.2.1 _ h0 mh0 th0 x_22 bt hbt mbt tbt (by first | omega | decide)) (cV hts mv_X12_isLetter mw_6_147 rfl rfl ⟨Nat.le_of_ble_eq_true rfl, Nat.le_of_ble_eq_true rfl⟩) (pV hB.1 hK hN mh0 th0 (show shp cA 12 _ _ _ = .inr (12, Fs12 _ _ _) from rfl) rfl) rfl rfl hl.1 rfl (lv_room (Nat.le_of_ble_eq_true rfl)) dX12_isWord_18 ⟨Nat.le_of_ble_eq_true rfl, Nat.le_of_ble_eq_true rfl⟩) hLA hA hB hS (by decide) (fun x_25 σ_23 ρ_24 H locs hB fσ_23 pσ_23 hS => ?_)
  have qσ_23 := FR.nil fσ_23
  subst qσ_23
  obtain ⟨ox_25, ix_25⟩ := pσ_23
  refine lv_if_eq (tgt := 56) hx hb dX12_isWord_21 (by decide) (fun c_26 => ?_) (fun c_26 => ?_)
  · skip
    have uc_26 := i_eq (n := 0) (by decide) c_26
    refine lv_iload hx hb dX12_isWord_56 (lv_at hl 0 rfl) ?_
    refine lv_if_le (tgt := 78) hx hb dX12_isWord_58 (by decide) (fun c_27 => ?_) (fun c_27 => ?_)
    · skip
      have uc_27 := i_le (n := 0) (by decide) c_27
      refine lv_iconst (v := 0) hx hb dX12_isWord_78 (by decide) ?_
      exact W.zret (v := 0) hx hb hr rfl (fun t ht hW => ⟨⟨0, (σ_14, ρ_24), rfl, ⟨hB.2.1, hB.2.2, ⟨(show 0 ≤ (0 : Int32).toInt ∧ (0 : Int32).toInt ≤ 1 from ⟨by decide, by decide⟩), (show (σ h0 8).toInt ≤ (σ_14 h0 8).toInt from (by rw [k_18]; omega)), (show (0 : Int32).toInt = 1 → ((σ_14 h0 8).toInt < (σ_14 h0 1).toInt ∧ 97 ≤ (σ_14 bt (σ_14 h0 8).toNatClampNeg).toInt ∧ (σ_14 bt (σ_14 h0 8).toNatClampNeg).toInt ≤ 122) from (fun h => absurd h (by decide))), (show ((σ h0 8).toInt < (σ h0 1).toInt ∧ (σ bt (σ h0 8).toNatClampNeg).toInt ≠ 32) → (σ_14 h0 8).toInt = (σ h0 8).toInt from (fun h => by rw [k_18]; first | omega | (have g1 := g_9 h; omega)))⟩⟩, (show TP D cA L T r σ_14 ρ_24 t.heap from by rw [ht]; exact hB.1)⟩, hS.F ht⟩) hS.2.2 dX12_isWord_79
    · skip
      have uc_27 := i_nle (n := 0) (by decide) c_27
      refine lv_iload hx hb dX12_isWord_61 (lv_at hl 0 rfl) ?_
      refine lv_bipush (v := 8) hx hb dX12_isWord_63 (by decide) ?_
      refine lv_icmp_ge (tgt := 78) hx hb dX12_isWord_65 (by decide) (fun c_28 => ?_) (fun c_28 => ?_)
      · skip
        have uc_28 := i_ge (n := 8) (by decide) c_28
        refine lv_iconst (v := 0) hx hb dX12_isWord_78 (by decide) ?_
        exact W.zret (v := 0) hx hb hr rfl (fun t ht hW => ⟨⟨0, (σ_14, ρ_24), rfl, ⟨hB.2.1, hB.2.2, ⟨(show 0 ≤ (0 : Int32).toInt ∧ (0 : Int32).toInt ≤ 1 from ⟨by decide, by decide⟩), (show (σ h0 8).toInt ≤ (σ_14 h0 8).toInt from (by rw [k_18]; omega)), (show (0 : Int32).toInt = 1 → ((σ_14 h0 8).toInt < (σ_14 h0 1).toInt ∧ 97 ≤ (σ_14 bt (σ_14 h0 8).toNatClampNeg).toInt ∧ (σ_14 bt (σ_14 h0 8).toNatClampNeg).toInt ≤ 122) from (fun h => absurd h (by decide))), (show ((σ h0 8).toInt < (σ h0 1).toInt ∧ (σ bt (σ h0 8).toNatClampNeg).toInt ≠ 32) → (σ_14 h0 8).toInt = (σ h0 8).toInt from (fun h => by rw [k_18]; first | omega | (have g1 := g_9 h; omega)))⟩⟩, (show TP D cA L T r σ_14 ρ_24 t.heap from by rw [ht]; exact hB.1)⟩, hS.F ht⟩) hS.2.2 dX12_isWord_79
      · skip
        have uc_28 := i_nge (n := 8) (by decide) c_28
        refine lv_lload_n hx hb dX12_isWord_68 rfl (lv_at hl 1 rfl) ?_
        refine lv_lload_n hx hb dX12_isWord_69 rfl (lv_at hl 3 rfl) ?_
        refine W.lcmp hx hb dX12_isWord_70 ?_
        refine lv_if_ne (tgt := 78) hx hb dX12_isWord_71 (by decide) (fun c_29 => ?_) (fun c_29 => ?_)
        · skip
          have uc_29 := mt (lg_cmp_eq _ _).mpr c_29
          refine lv_iconst (v := 0) hx hb dX12_isWord_78 (by decide) ?_
          exact W.zret (v := 0) hx hb hr rfl (fun t ht hW => ⟨⟨0, (σ_14, ρ_24), rfl, ⟨hB.2.1, hB.2.2, ⟨(show 0 ≤ (0 : Int32).toInt ∧ (0 : Int32).toInt ≤ 1 from ⟨by decide, by decide⟩), (show (σ h0 8).toInt ≤ (σ_14 h0 8).toInt from (by rw [k_18]; omega)), (show (0 : Int32).toInt = 1 → ((σ_14 h0 8).toInt < (σ_14 h0 1).toInt ∧ 97 ≤ (σ_14 bt (σ_14 h0 8).toNatClampNeg).toInt ∧ (σ_14 bt (σ_14 h0 8).toNatClampNeg).toInt ≤ 122) from (fun h => absurd h (by decide))), (show ((σ h0 8).toInt < (σ h0 1).toInt ∧ (σ bt (σ h0 8).toNatClampNeg).toInt ≠ 32) → (σ_14 h0 8).toInt = (σ h0 8).toInt from (fun h => by rw [k_18]; first | omega | (have g1 := g_9 h; omega)))⟩⟩, (show TP D cA L T r σ_14 ρ_24 t.heap from by rw [ht]; exact hB.1)⟩, hS.F ht⟩) hS.2.2 dX12_isWord_79
        · skip
          have uc_29 := (lg_cmp_eq _ _).mp c_29
          refine lv_iconst (v := 1) hx hb dX12_isWord_74 (by decide) ?_
          refine lv_goto (tgt := 79) hx hb dX12_isWord_75 (by decide) ?_
          exact W.zret (v := 1) hx hb hr rfl (fun t ht hW => ⟨⟨1, (σ_14, ρ_24), rfl, ⟨hB.2.1, hB.2.2, ⟨(show 0 ≤ (1 : Int32).toInt ∧ (1 : Int32).toInt ≤ 1 from ⟨by decide, by decide⟩), (show (σ h0 8).toInt ≤ (σ_14 h0 8).toInt from (by rw [k_18]; omega)), (show (1 : Int32).toInt = 1 → ((σ_14 h0 8).toInt < (σ_14 h0 1).toInt ∧ 97 ≤ (σ_14 bt (σ_14 h0 8).toNatClampNeg).toInt ∧ (σ_14 bt (σ_14 h0 8).toNatClampNeg).toInt ≤ 122) from (fun h => by have g1 := g_19; omega)), (show ((σ h0 8).toInt < (σ h0 1).toInt ∧ (σ bt (σ h0 8).toNatClampNeg).toInt ≠ 32) → (σ_14 h0 8).toInt = (σ h0 8).toInt from (fun h => by rw [k_18]; first | omega | (have g1 := g_9 h; omega)))⟩⟩, (show TP D cA L T r σ_14 ρ_24 t.heap from by rw [ht]; exact hB.1)⟩, hS.F ht⟩) hS.2.2 dX12_isWord_79
  · skip
    have uc_26 := i_ne (n := 0) (by decide) c_26
    refine lv_iload hx hb dX12_isWord_24 (lv_at hl 0 rfl) ?_
    refine lv_bipush (v := 8) hx hb dX12_isWord_26 (by decide) ?_
    refine lv_icmp_ge (tgt := 50) hx hb dX12_isWord_28 (by decide) (fun c_30 => ?_) (fun c_30 => ?_)
    · skip
      have uc_30 := i_ge (n := 8) (by decide) c_30
      obtain ⟨x_31, ex_31⟩ : ∃ y : Int32, y = i_13 + 1 := ⟨_, rfl⟩
      have vx_31 := b_add (rfl : i_13.toInt = _) (by decide : (1 : Int32).toInt = 1) ex_31 (by omega) (by omega)
      refine lv_iinc (v := x_31) (lv' := [(5, .int x_31), (3, .long i_12), (0, .ref h0), (1, .long p1)]) hx hb dX12_isWord_50 hl (k := 0) rfl (by rw [ex_31]; rfl) (by decide) rfl (fun ls hl => ?_)
      refine lv_goto (tgt := 10) hx hb dX12_isWord_53 (by decide) ?_
      exact ih_16 ⟨i_12, x_31, σ_14, ρ_24⟩ _ _ _ ⟨(by omega), (by omega), k_17, k_18, (fun h => by have z := fun e => nb_c (f := σ_14 bt) (a := x_22) (b := (σ_14 h0 8)) e; have g1 := g_19; omega), hB, hS, lv_sub hl [0, 1, 2, 3] rfl⟩ (by show (400 - x_31.toInt).toNat < (400 - i_13.toInt).toNat; omega)
    · skip
      have uc_30 := i_nge (n := 8) (by decide) c_30
      refine lv_lload_n hx hb dX12_isWord_31 rfl (lv_at hl 1 rfl) ?_
      refine lv_bipush (v := 8) hx hb dX12_isWord_32 (by decide) ?_
      refine lv_lshl hx hb dX12_isWord_34 rfl ?_
      refine lv_topl (fun y_32 ey_32 => ?_)
      refine lv_aload_n hx hb dX12_isWord_35 rfl (lv_at hl 2 rfl) ?_
      refine t_gk hx hb hts hown hK hB mh0 th0 fq_12_0 hbt mw_5_216 dX12_isWord_36 ?_
      refine lv_aload_n hx hb dX12_isWord_39 rfl (lv_at hl 2 rfl) ?_
      refine t_gv hx hb hts hown hK hB mh0 th0 fi_12_8 k_18 mw_5_224 dX12_isWord_40 ?_
      refine lv_iload hx hb dX12_isWord_43 (lv_at hl 0 rfl) ?_
      refine lv_iadd hx hb dX12_isWord_45 ?_
      refine lv_topi (fun x_33 ex_33 => ?_)
      have vx_33 := b_add (rfl : (σ_3 h0 8).toInt = _) (rfl : i_13.toInt = _) ex_33 (by omega) (by omega)
      refine t_ab hx hb hK hB mbt tbt ai_61 (fun _ => rfl) (i_in (by omega) (by omega)) dX12_isWord_46 (fun x_34 ex_34 lx_34 ux_34 => ?_)
      have cx_34 := congrArg Int32.toInt ex_34
      refine lv_i2l (v := x_34.toInt64) hx hb dX12_isWord_47 rfl ?_
      refine lv_lor hx hb dX12_isWord_48 ?_
      refine lv_topl (fun y_35 ey_35 => ?_)
      refine lv_lstore_n (lv' := [(3, .long y_35), (5, .int i_13), (0, .ref h0), (1, .long p1)]) hx hb dX12_isWord_49 rfl hl (by decide) rfl (fun ls hl => ?_)
      obtain ⟨x_36, ex_36⟩ : ∃ y : Int32, y = i_13 + 1 := ⟨_, rfl⟩
      have vx_36 := b_add (rfl : i_13.toInt = _) (by decide : (1 : Int32).toInt = 1) ex_36 (by omega) (by omega)
      refine lv_iinc (v := x_36) (lv' := [(5, .int x_36), (3, .long y_35), (0, .ref h0), (1, .long p1)]) hx hb dX12_isWord_50 hl (k := 1) rfl (by rw [ex_36]; rfl) (by decide) rfl (fun ls hl => ?_)
      refine lv_goto (tgt := 10) hx hb dX12_isWord_53 (by decide) ?_
      exact ih_16 ⟨y_35, x_36, σ_14, ρ_24⟩ _ _ _ ⟨(by omega), (by omega), k_17, k_18, (fun h => by have z := fun e => nb_c (f := σ_14 bt) (a := x_22) (b := (σ_14 h0 8)) e; have g1 := g_19; omega), hB, hS, lv_sub hl [0, 1, 2, 3] rfl⟩ (by show (400 - x_36.toInt).toNat < (400 - i_13.toInt).toNat; omega)
