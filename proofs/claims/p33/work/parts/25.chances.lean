set_option maxHeartbeats 4000000 in
set_option maxRecDepth 100000 in
theorem cy_X0_shiftOf (l : Launch) (D : va_G) (cA : Nat → ClassId) (L : List Nat) (T : Nat → Nat) (r : Rg) (hG : GR L T r) (hL : L.Nodup) (σ : Sg) (ρ : Lg) (hW : WT L ry T σ) (sz : Nat) (h1 : Nat) (mh1 : h1 ∈ L) (th1 : T h1 = 3) (p2 : Int32) (w0 : 0 ≤ p2.toInt) (w1 : p2.toInt ≤ 4) : Met l yX0_shiftOf (.code yX0_shiftOf cX0_shiftOf 2 (some .int) :: wsA) ({ frames := 0, cells := 0, slots := 0, locals := 0 }) (PR D cA L T r σ ρ sz [.ref h1, .int p2]) (QI D cA L T r ry ([] : List (Nat × Nat)) σ sz (fun x σ1 => ((-8) ≤ x.toInt ∧ x.toInt ≤ 8))) 0 0 (dm L sz) := by
  refine Met.ofW (cc := cX0_shiftOf) (maxL := 2) (ret := (some .int)) (by decide) rfl ?_
  intro p e s m args below meth c s₁ B hml hv
  obtain ⟨rfl, hsz, hP, hK, hN⟩ := hv
  have hx := B.exec
  have hb := B.bytes
  have hr := B.returns
  have hts : ∀ w ∈ wsA, w.before _ s = true := fun w h => atoms_spec (ws := .code yX0_shiftOf cX0_shiftOf 2 (some .int) :: wsA) B.pre w (List.mem_cons_of_mem _ h)
  have hown : s.vm.findClass RX0 = some m.cls := findClass_of_methodNamed B.named
  subst hsz
  have hLA : LA (dm L s.heap.size) L := ⟨hL, fun a h => Or.inl h⟩
  have hA : ∀ q : Nat, s.heap.size ≤ q → dm L s.heap.size q := fun q h => Or.inr h
  have hS : va_S (dm L s.heap.size) s.heap s.heap [] := va_S.rf
  have hB : TS D cA L T r ry ([] : List (Nat × Nat)) σ σ ρ s.heap := ⟨hP, hW, FR.rf⟩
  have hl := lv_entry ([.ref h1, .int p2]) (n := 2) (Nat.le_of_ble_eq_true rfl)
  rw [lg_entry_eq]
  generalize (lg_sl ([.ref h1, .int p2]) ++ List.replicate (2 - (lg_sl ([.ref h1, .int p2])).length) Slot.unset).toArray = ls at hl ⊢
  have hl : lv_has ls 2 [(0, .ref h1), (1, .int p2)] := hl
  refine lv_iconst (v := 2) hx hb dX0_shiftOf_0 (by decide) ?_
  refine lv_aload_n hx hb dX0_shiftOf_1 rfl (lv_at hl 0 rfl) ?_
  refine t_gi hx hb hts hown hK hB mh1 th1 fi_3_8 rfl mw_1_176 dX0_shiftOf_2 (fun x_1 ex_1 lx_1 ux_1 => ?_)
  refine lv_iconst (v := 1) hx hb dX0_shiftOf_5 (by decide) ?_
  refine lv_isub hx hb dX0_shiftOf_6 ?_
  refine lv_topi (fun x_2 ex_2 => ?_)
  have vx_2 := b_sub (rfl : x_1.toInt = _) (by decide : (1 : Int32).toInt = 1) ex_2 (by omega) (by omega)
  refine lv_iload_n hx hb dX0_shiftOf_7 rfl (lv_at hl 1 rfl) ?_
  refine lv_isub hx hb dX0_shiftOf_8 ?_
  refine lv_topi (fun x_3 ex_3 => ?_)
  have vx_3 := b_sub (rfl : x_2.toInt = _) (rfl : p2.toInt = _) ex_3 (by omega) (by omega)
  refine lv_imul hx hb dX0_shiftOf_9 ?_
  refine lv_topi (fun x_4 ex_4 => ?_)
  have vx_4 := b_mul (by decide : (2 : Int32).toInt = 2) (rfl : x_3.toInt = _) ex_4 (by omega) (by omega)
  exact W.iret (v := x_4) hx hb hr (fun t ht hW => ⟨⟨x_4, (σ, ρ), rfl, ⟨hB.2.1, hB.2.2, (show (-8) ≤ (x_4 : Int32).toInt ∧ (x_4 : Int32).toInt ≤ 8 from ⟨by omega, by omega⟩)⟩, (show TP D cA L T r σ ρ t.heap from by rw [ht]; exact hB.1)⟩, hS.F ht⟩) hS.2.2 dX0_shiftOf_10
