theorem mw_4_143 : (.methodLink RX8 67 yX3_askedAt : Cond) ∈ wsA := wsA_t (List.mem_append_right _ (List.mem_append_right _ (List.mem_append_right _ (List.mem_append_left _ (List.mem_of_getElem? (l := tables_1_4) (i := 143) rfl))))) rfl
theorem dX8_canGoUp_0 : decode cX8_canGoUp 0 = .ok (.aload_n 0, 1) := by decide +kernel
theorem dX8_canGoUp_1 : decode cX8_canGoUp 1 = .ok (.getfield 9, 3) := by decide +kernel
theorem dX8_canGoUp_4 : decode cX8_canGoUp 4 = .ok (.iload_n 2, 1) := by decide +kernel
theorem dX8_canGoUp_5 : decode cX8_canGoUp 5 = .ok (.iaload, 1) := by decide +kernel
theorem dX8_canGoUp_6 : decode cX8_canGoUp 6 = .ok (.istore_n 3, 1) := by decide +kernel
theorem dX8_canGoUp_7 : decode cX8_canGoUp 7 = .ok (.iload_n 3, 1) := by decide +kernel
theorem dX8_canGoUp_8 : decode cX8_canGoUp 8 = .ok (.aload_n 1, 1) := by decide +kernel
theorem dX8_canGoUp_9 : decode cX8_canGoUp 9 = .ok (.getfield 57, 3) := by decide +kernel
theorem dX8_canGoUp_12 : decode cX8_canGoUp 12 = .ok (.if_icmp .ge 28, 3) := by decide +kernel
theorem dX8_canGoUp_40 : decode cX8_canGoUp 40 = .ok (.iconst 0, 1) := by decide +kernel
theorem dX8_canGoUp_41 : decode cX8_canGoUp 41 = .ok (.ireturn, 1) := by decide +kernel
theorem dX8_canGoUp_15 : decode cX8_canGoUp 15 = .ok (.aload_n 0, 1) := by decide +kernel
theorem dX8_canGoUp_16 : decode cX8_canGoUp 16 = .ok (.getfield 24, 3) := by decide +kernel
theorem dX8_canGoUp_19 : decode cX8_canGoUp 19 = .ok (.iload_n 2, 1) := by decide +kernel
theorem dX8_canGoUp_20 : decode cX8_canGoUp 20 = .ok (.iconst 5, 1) := by decide +kernel
theorem dX8_canGoUp_21 : decode cX8_canGoUp 21 = .ok (.imul, 1) := by decide +kernel
theorem dX8_canGoUp_22 : decode cX8_canGoUp 22 = .ok (.aload_n 1, 1) := by decide +kernel
theorem dX8_canGoUp_23 : decode cX8_canGoUp 23 = .ok (.iload_n 3, 1) := by decide +kernel
theorem dX8_canGoUp_24 : decode cX8_canGoUp 24 = .ok (.aload_n 0, 1) := by decide +kernel
theorem dX8_canGoUp_25 : decode cX8_canGoUp 25 = .ok (.getfield 30, 3) := by decide +kernel
theorem dX8_canGoUp_28 : decode cX8_canGoUp 28 = .ok (.invokevirtual 67, 3) := by decide +kernel
theorem dX8_canGoUp_31 : decode cX8_canGoUp 31 = .ok (.iadd, 1) := by decide +kernel
theorem dX8_canGoUp_32 : decode cX8_canGoUp 32 = .ok (.iaload, 1) := by decide +kernel
theorem dX8_canGoUp_33 : decode cX8_canGoUp 33 = .ok (.ifCond .le 7, 3) := by decide +kernel
theorem dX8_canGoUp_36 : decode cX8_canGoUp 36 = .ok (.iconst 1, 1) := by decide +kernel
theorem dX8_canGoUp_37 : decode cX8_canGoUp 37 = .ok (.goto 4, 3) := by decide +kernel
set_option maxHeartbeats 4000000 in
set_option maxRecDepth 100000 in
theorem cy_X8_canGoUp_8 (l : Launch) (D : va_G) (cA : Nat → ClassId) (L : List Nat) (T : Nat → Nat) (r : Rg) (hG : GR L T r) (hL : L.Nodup) (σ : Sg) (ρ : Lg) (hW : WT L ry T σ) (sz : Nat) (h0 : Nat) (mh0 : h0 ∈ L) (th0 : T h0 = 8) (h1 : Nat) (mh1 : h1 ∈ L) (th1 : T h1 = 3) (p2 : Int32) (bh : Nat) (hbh : r h0 0 = some bh) (mbh : bh ∈ L) (tbh : T bh = 45) (w0 : 0 ≤ p2.toInt) (w1 : p2.toInt ≤ 3) : Met l yX8_canGoUp (.code yX8_canGoUp cX8_canGoUp 4 (some .boolean) :: wsA) ({ frames := 1, cells := 0, slots := 0, locals := 22 }) (PR D cA L T r σ ρ sz [.ref h0, .ref h1, .int p2]) (QI D cA L T r ry ([] : List (Nat × Nat)) σ sz (fun x σ1 => ((x.toInt = 0 ∨ x.toInt = 1) ∧ (x.toInt = 1 → (σ1 bh p2.toNatClampNeg).toInt ≤ 7)))) 0 0 (dm L sz) := by
  refine Met.ofW (cc := cX8_canGoUp) (maxL := 4) (ret := (some .boolean)) (by decide) rfl ?_
  intro p e s m args below meth c s₁ B hml hv
  obtain ⟨rfl, hsz, hP, hK, hN⟩ := hv
  have hx := B.exec
  have hb := B.bytes
  have hr := B.returns
  have hts : ∀ w ∈ wsA, w.before _ s = true := fun w h => atoms_spec (ws := .code yX8_canGoUp cX8_canGoUp 4 (some .boolean) :: wsA) B.pre w (List.mem_cons_of_mem _ h)
  have hown : s.vm.findClass RX8 = some m.cls := findClass_of_methodNamed B.named
  subst hsz
  have hLA : LA (dm L s.heap.size) L := ⟨hL, fun a h => Or.inl h⟩
  have hA : ∀ q : Nat, s.heap.size ≤ q → dm L s.heap.size q := fun q h => Or.inr h
  have hS : va_S (dm L s.heap.size) s.heap s.heap [] := va_S.rf
  have hB : TS D cA L T r ry ([] : List (Nat × Nat)) σ σ ρ s.heap := ⟨hP, hW, FR.rf⟩
  have hl := lv_entry ([.ref h0, .ref h1, .int p2]) (n := 4) (Nat.le_of_ble_eq_true rfl)
  rw [lg_entry_eq]
  generalize (lg_sl ([.ref h0, .ref h1, .int p2]) ++ List.replicate (4 - (lg_sl ([.ref h0, .ref h1, .int p2])).length) Slot.unset).toArray = ls at hl ⊢
  have hl : lv_has ls 4 [(0, .ref h0), (1, .ref h1), (2, .int p2)] := hl
  refine lv_aload_n hx hb dX8_canGoUp_0 rfl (lv_at hl 0 rfl) ?_
  refine t_gk hx hb hts hown hK hB mh0 th0 fq_8_0 hbh mw_1_80 dX8_canGoUp_1 ?_
  refine lv_iload_n hx hb dX8_canGoUp_4 rfl (lv_at hl 2 rfl) ?_
  refine t_ai hx hb hK hB mbh tbh ai_45 (fun _ => rfl) (i_in (by omega) (by omega)) dX8_canGoUp_5 (fun x_1 ex_1 lx_1 ux_1 => ?_)
  have cx_1 := congrArg Int32.toInt ex_1
  refine lv_istore_n (lv' := [(3, .int x_1), (0, .ref h0), (1, .ref h1), (2, .int p2)]) hx hb dX8_canGoUp_6 rfl hl (by decide) rfl (fun ls hl => ?_)
  refine lv_iload_n hx hb dX8_canGoUp_7 rfl (lv_at hl 0 rfl) ?_
  refine lv_aload_n hx hb dX8_canGoUp_8 rfl (lv_at hl 2 rfl) ?_
  refine t_gi hx hb hts hown hK hB mh1 th1 fi_3_9 rfl mw_1_183 dX8_canGoUp_9 (fun x_2 ex_2 lx_2 ux_2 => ?_)
  have cx_2 := congrArg Int32.toInt ex_2
  refine lv_icmp_ge (tgt := 40) hx hb dX8_canGoUp_12 (by decide) (fun c_3 => ?_) (fun c_3 => ?_)
  · skip
    have uc_3 := j_le c_3
    refine lv_iconst (v := 0) hx hb dX8_canGoUp_40 (by decide) ?_
    exact W.zret (v := 0) hx hb hr rfl (fun t ht hW => ⟨⟨0, (σ, ρ), rfl, ⟨hB.2.1, hB.2.2, (show ((0 : Int32).toInt = 0 ∨ (0 : Int32).toInt = 1) ∧ ((0 : Int32).toInt = 1 → (σ bh p2.toNatClampNeg).toInt ≤ 7) from ⟨Or.inl (by decide), fun h => absurd h (by decide)⟩)⟩, (show TP D cA L T r σ ρ t.heap from by rw [ht]; exact hB.1)⟩, hS.F ht⟩) hS.2.2 dX8_canGoUp_41
  · skip
    have uc_3 := j_nle c_3
    refine lv_aload_n hx hb dX8_canGoUp_15 rfl (lv_at hl 1 rfl) ?_
    refine t_gr hx hb hts hown hK hG hB mh0 th0 fq_8_4 rfl mw_1_95 dX8_canGoUp_16 (fun b_4 hb_4 mb_4 tb_4 => ?_)
    refine lv_iload_n hx hb dX8_canGoUp_19 rfl (lv_at hl 3 rfl) ?_
    refine lv_iconst (v := 5) hx hb dX8_canGoUp_20 (by decide) ?_
    refine lv_imul hx hb dX8_canGoUp_21 ?_
    refine lv_topi (fun x_5 ex_5 => ?_)
    have vx_5 := b_mul (rfl : p2.toInt = _) (by decide : (5 : Int32).toInt = 5) ex_5 (by omega) (by omega)
    refine lv_aload_n hx hb dX8_canGoUp_22 rfl (lv_at hl 2 rfl) ?_
    refine lv_iload_n hx hb dX8_canGoUp_23 rfl (lv_at hl 0 rfl) ?_
    refine lv_aload_n hx hb dX8_canGoUp_24 rfl (lv_at hl 1 rfl) ?_
    refine t_gi hx hb hts hown hK hB mh0 th0 fi_8_6 rfl mw_1_106 dX8_canGoUp_25 (fun x_6 ex_6 lx_6 ux_6 => ?_)
    have cx_6 := congrArg Int32.toInt ex_6
    refine t_ci (va_runV (As := [.int x_1, .int x_6]) (rest := [.int x_5, .ref b_4]) ⟨hx, hb, hml, hown, hts⟩ (cy_X3_askedAt l D cA L T r hG hLA.1 σ ρ hB.2.1 _ h1 mh1 th1 x_1 x_6 (by first | omega | decide) (by first | omega | decide)) (cV hts mv_X3_askedAt mw_4_143 rfl rfl ⟨Nat.le_of_ble_eq_true rfl, Nat.le_of_ble_eq_true rfl⟩) (pV hB.1 hK hN mh1 th1 (show shp cA 3 _ _ _ = .inr (3, Fs3 _ _ _) from rfl) rfl) rfl rfl hl.1 rfl (lv_room (Nat.le_of_ble_eq_true rfl)) dX8_canGoUp_28 ⟨Nat.le_of_ble_eq_true rfl, Nat.le_of_ble_eq_true rfl⟩) hLA hA hB hS (by decide) (fun x_9 σ_7 ρ_8 H locs hB fσ_7 pσ_7 hS => ?_)
    have qσ_7 := FR.nil fσ_7
    subst qσ_7
    obtain ⟨lx_9, ux_9⟩ := pσ_7
    refine lv_iadd hx hb dX8_canGoUp_31 ?_
    refine lv_topi (fun x_10 ex_10 => ?_)
    have vx_10 := b_add (rfl : x_5.toInt = _) (rfl : x_9.toInt = _) ex_10 (by omega) (by omega)
    refine t_ai hx hb hK hB mb_4 tb_4 ai_49 (fun _ => rfl) (i_in (by omega) (by omega)) dX8_canGoUp_32 (fun x_11 ex_11 lx_11 ux_11 => ?_)
    have cx_11 := congrArg Int32.toInt ex_11
    refine lv_if_le (tgt := 40) hx hb dX8_canGoUp_33 (by decide) (fun c_12 => ?_) (fun c_12 => ?_)
    · skip
      have uc_12 := i_le (n := 0) (by decide) c_12
      refine lv_iconst (v := 0) hx hb dX8_canGoUp_40 (by decide) ?_
      exact W.zret (v := 0) hx hb hr rfl (fun t ht hW => ⟨⟨0, (σ, ρ_8), rfl, ⟨hB.2.1, hB.2.2, (show ((0 : Int32).toInt = 0 ∨ (0 : Int32).toInt = 1) ∧ ((0 : Int32).toInt = 1 → (σ bh p2.toNatClampNeg).toInt ≤ 7) from ⟨Or.inl (by decide), fun h => absurd h (by decide)⟩)⟩, (show TP D cA L T r σ ρ_8 t.heap from by rw [ht]; exact hB.1)⟩, hS.F ht⟩) hS.2.2 dX8_canGoUp_41
    · skip
      have uc_12 := i_nle (n := 0) (by decide) c_12
      refine lv_iconst (v := 1) hx hb dX8_canGoUp_36 (by decide) ?_
      refine lv_goto (tgt := 41) hx hb dX8_canGoUp_37 (by decide) ?_
      exact W.zret (v := 1) hx hb hr rfl (fun t ht hW => ⟨⟨1, (σ, ρ_8), rfl, ⟨hB.2.1, hB.2.2, (show ((1 : Int32).toInt = 0 ∨ (1 : Int32).toInt = 1) ∧ ((1 : Int32).toInt = 1 → (σ bh p2.toNatClampNeg).toInt ≤ 7) from ⟨Or.inr (by decide), fun _ => by omega⟩)⟩, (show TP D cA L T r σ ρ_8 t.heap from by rw [ht]; exact hB.1)⟩, hS.F ht⟩) hS.2.2 dX8_canGoUp_41
theorem dX8_goUp_0 : decode cX8_goUp 0 = .ok (.aload_n 0, 1) := by decide +kernel
theorem dX8_goUp_1 : decode cX8_goUp 1 = .ok (.getfield 9, 3) := by decide +kernel
theorem dX8_goUp_4 : decode cX8_goUp 4 = .ok (.iload_n 2, 1) := by decide +kernel
theorem dX8_goUp_5 : decode cX8_goUp 5 = .ok (.iaload, 1) := by decide +kernel
theorem dX8_goUp_6 : decode cX8_goUp 6 = .ok (.istore_n 3, 1) := by decide +kernel
theorem dX8_goUp_7 : decode cX8_goUp 7 = .ok (.aload_n 1, 1) := by decide +kernel
theorem dX8_goUp_8 : decode cX8_goUp 8 = .ok (.iload_n 3, 1) := by decide +kernel
theorem dX8_goUp_9 : decode cX8_goUp 9 = .ok (.aload_n 0, 1) := by decide +kernel
theorem dX8_goUp_10 : decode cX8_goUp 10 = .ok (.getfield 30, 3) := by decide +kernel
theorem dX8_goUp_13 : decode cX8_goUp 13 = .ok (.invokevirtual 67, 3) := by decide +kernel
theorem dX8_goUp_16 : decode cX8_goUp 16 = .ok (.istore 4, 2) := by decide +kernel
theorem dX8_goUp_18 : decode cX8_goUp 18 = .ok (.iload_n 3, 1) := by decide +kernel
theorem dX8_goUp_19 : decode cX8_goUp 19 = .ok (.iconst 5, 1) := by decide +kernel
theorem dX8_goUp_20 : decode cX8_goUp 20 = .ok (.imul, 1) := by decide +kernel
theorem dX8_goUp_21 : decode cX8_goUp 21 = .ok (.iload 4, 2) := by decide +kernel
theorem dX8_goUp_23 : decode cX8_goUp 23 = .ok (.iadd, 1) := by decide +kernel
theorem dX8_goUp_24 : decode cX8_goUp 24 = .ok (.istore 5, 2) := by decide +kernel
theorem dX8_goUp_26 : decode cX8_goUp 26 = .ok (.aload_n 0, 1) := by decide +kernel
theorem dX8_goUp_27 : decode cX8_goUp 27 = .ok (.getfield 24, 3) := by decide +kernel
theorem dX8_goUp_30 : decode cX8_goUp 30 = .ok (.iload_n 2, 1) := by decide +kernel
theorem dX8_goUp_31 : decode cX8_goUp 31 = .ok (.iconst 5, 1) := by decide +kernel
theorem dX8_goUp_32 : decode cX8_goUp 32 = .ok (.imul, 1) := by decide +kernel
theorem dX8_goUp_33 : decode cX8_goUp 33 = .ok (.iload 4, 2) := by decide +kernel
theorem dX8_goUp_35 : decode cX8_goUp 35 = .ok (.iadd, 1) := by decide +kernel
theorem dX8_goUp_36 : decode cX8_goUp 36 = .ok (.dup2, 1) := by decide +kernel
theorem dX8_goUp_37 : decode cX8_goUp 37 = .ok (.iaload, 1) := by decide +kernel
theorem dX8_goUp_38 : decode cX8_goUp 38 = .ok (.iconst 1, 1) := by decide +kernel
theorem dX8_goUp_39 : decode cX8_goUp 39 = .ok (.isub, 1) := by decide +kernel
theorem dX8_goUp_40 : decode cX8_goUp 40 = .ok (.iastore, 1) := by decide +kernel
theorem dX8_goUp_41 : decode cX8_goUp 41 = .ok (.aload_n 0, 1) := by decide +kernel
theorem dX8_goUp_42 : decode cX8_goUp 42 = .ok (.getfield 27, 3) := by decide +kernel
theorem dX8_goUp_45 : decode cX8_goUp 45 = .ok (.iload 5, 2) := by decide +kernel
theorem dX8_goUp_47 : decode cX8_goUp 47 = .ok (.bipush 99, 2) := by decide +kernel
theorem dX8_goUp_49 : decode cX8_goUp 49 = .ok (.aload_n 0, 1) := by decide +kernel
theorem dX8_goUp_50 : decode cX8_goUp 50 = .ok (.getfield 27, 3) := by decide +kernel
theorem dX8_goUp_53 : decode cX8_goUp 53 = .ok (.iload 5, 2) := by decide +kernel
theorem dX8_goUp_55 : decode cX8_goUp 55 = .ok (.iaload, 1) := by decide +kernel
theorem dX8_goUp_56 : decode cX8_goUp 56 = .ok (.iconst 1, 1) := by decide +kernel
theorem dX8_goUp_57 : decode cX8_goUp 57 = .ok (.iadd, 1) := by decide +kernel
theorem dX8_goUp_58 : decode cX8_goUp 58 = .ok (.invokestatic 71, 3) := by decide +kernel
theorem dX8_goUp_61 : decode cX8_goUp 61 = .ok (.iastore, 1) := by decide +kernel
theorem dX8_goUp_62 : decode cX8_goUp 62 = .ok (.aload_n 0, 1) := by decide +kernel
theorem dX8_goUp_63 : decode cX8_goUp 63 = .ok (.getfield 9, 3) := by decide +kernel
theorem dX8_goUp_66 : decode cX8_goUp 66 = .ok (.iload_n 2, 1) := by decide +kernel
theorem dX8_goUp_67 : decode cX8_goUp 67 = .ok (.dup2, 1) := by decide +kernel
theorem dX8_goUp_68 : decode cX8_goUp 68 = .ok (.iaload, 1) := by decide +kernel
theorem dX8_goUp_69 : decode cX8_goUp 69 = .ok (.iconst 1, 1) := by decide +kernel
theorem dX8_goUp_70 : decode cX8_goUp 70 = .ok (.iadd, 1) := by decide +kernel
theorem dX8_goUp_71 : decode cX8_goUp 71 = .ok (.iastore, 1) := by decide +kernel
theorem dX8_goUp_72 : decode cX8_goUp 72 = .ok (.aload_n 0, 1) := by decide +kernel
theorem dX8_goUp_73 : decode cX8_goUp 73 = .ok (.getfield 18, 3) := by decide +kernel
theorem dX8_goUp_76 : decode cX8_goUp 76 = .ok (.iload_n 2, 1) := by decide +kernel
theorem dX8_goUp_77 : decode cX8_goUp 77 = .ok (.dup2, 1) := by decide +kernel
theorem dX8_goUp_78 : decode cX8_goUp 78 = .ok (.iaload, 1) := by decide +kernel
theorem dX8_goUp_79 : decode cX8_goUp 79 = .ok (.iconst 1, 1) := by decide +kernel
theorem dX8_goUp_80 : decode cX8_goUp 80 = .ok (.iadd, 1) := by decide +kernel
theorem dX8_goUp_81 : decode cX8_goUp 81 = .ok (.iastore, 1) := by decide +kernel
theorem dX8_goUp_82 : decode cX8_goUp 82 = .ok (.return_, 1) := by decide +kernel
set_option maxHeartbeats 4000000 in
set_option maxRecDepth 100000 in
theorem cy_X8_goUp_8 (l : Launch) (D : va_G) (cA : Nat → ClassId) (L : List Nat) (T : Nat → Nat) (r : Rg) (hG : GR L T r) (hL : L.Nodup) (σ : Sg) (ρ : Lg) (hW : WT L ry T σ) (sz : Nat) (h0 : Nat) (mh0 : h0 ∈ L) (th0 : T h0 = 8) (h1 : Nat) (mh1 : h1 ∈ L) (th1 : T h1 = 3) (p2 : Int32) (bh : Nat) (hbh : r h0 0 = some bh) (mbh : bh ∈ L) (tbh : T bh = 45) (w0 : 0 ≤ p2.toInt) (w1 : p2.toInt ≤ 3) (w2 : (σ bh p2.toNatClampNeg).toInt ≤ 7) : Met l yX8_goUp (.code yX8_goUp cX8_goUp 6 none :: wsA) ({ frames := 1, cells := 0, slots := 0, locals := 40 }) (PR D cA L T r σ ρ sz [.ref h0, .ref h1, .int p2]) (QV D cA L T r ry [(45, 1000), (47, 1000), (49, 1000), (50, 1000)] σ sz (fun σ1 => True)) 0 0 (dm L sz) := by
  refine Met.ofW (cc := cX8_goUp) (maxL := 6) (ret := none) (by decide) rfl ?_
  intro p e s m args below meth c s₁ B hml hv
  obtain ⟨rfl, hsz, hP, hK, hN⟩ := hv
  have hx := B.exec
  have hb := B.bytes
  have hr := B.returns
  have hts : ∀ w ∈ wsA, w.before _ s = true := fun w h => atoms_spec (ws := .code yX8_goUp cX8_goUp 6 none :: wsA) B.pre w (List.mem_cons_of_mem _ h)
  have hown : s.vm.findClass RX8 = some m.cls := findClass_of_methodNamed B.named
  subst hsz
  have hLA : LA (dm L s.heap.size) L := ⟨hL, fun a h => Or.inl h⟩
  have hA : ∀ q : Nat, s.heap.size ≤ q → dm L s.heap.size q := fun q h => Or.inr h
  have hS : va_S (dm L s.heap.size) s.heap s.heap [] := va_S.rf
  have hB : TS D cA L T r ry [(45, 1000), (47, 1000), (49, 1000), (50, 1000)] σ σ ρ s.heap := ⟨hP, hW, FR.rf⟩
  have hl := lv_entry ([.ref h0, .ref h1, .int p2]) (n := 6) (Nat.le_of_ble_eq_true rfl)
  rw [lg_entry_eq]
  generalize (lg_sl ([.ref h0, .ref h1, .int p2]) ++ List.replicate (6 - (lg_sl ([.ref h0, .ref h1, .int p2])).length) Slot.unset).toArray = ls at hl ⊢
  have hl : lv_has ls 6 [(0, .ref h0), (1, .ref h1), (2, .int p2)] := hl
  refine lv_aload_n hx hb dX8_goUp_0 rfl (lv_at hl 0 rfl) ?_
  refine t_gk hx hb hts hown hK hB mh0 th0 fq_8_0 hbh mw_1_80 dX8_goUp_1 ?_
  refine lv_iload_n hx hb dX8_goUp_4 rfl (lv_at hl 2 rfl) ?_
  refine t_ai hx hb hK hB mbh tbh ai_45 (fun _ => rfl) (i_in (by omega) (by omega)) dX8_goUp_5 (fun x_1 ex_1 lx_1 ux_1 => ?_)
  have cx_1 := congrArg Int32.toInt ex_1
  refine lv_istore_n (lv' := [(3, .int x_1), (0, .ref h0), (1, .ref h1), (2, .int p2)]) hx hb dX8_goUp_6 rfl hl (by decide) rfl (fun ls hl => ?_)
  refine lv_aload_n hx hb dX8_goUp_7 rfl (lv_at hl 2 rfl) ?_
  refine lv_iload_n hx hb dX8_goUp_8 rfl (lv_at hl 0 rfl) ?_
  refine lv_aload_n hx hb dX8_goUp_9 rfl (lv_at hl 1 rfl) ?_
  refine t_gi hx hb hts hown hK hB mh0 th0 fi_8_6 rfl mw_1_106 dX8_goUp_10 (fun x_2 ex_2 lx_2 ux_2 => ?_)
  have cx_2 := congrArg Int32.toInt ex_2
  refine t_ci (va_runV (As := [.int x_1, .int x_2]) (rest := []) ⟨hx, hb, hml, hown, hts⟩ (cy_X3_askedAt l D cA L T r hG hLA.1 σ ρ hB.2.1 _ h1 mh1 th1 x_1 x_2 (by first | omega | decide) (by first | omega | decide)) (cV hts mv_X3_askedAt mw_4_143 rfl rfl ⟨Nat.le_of_ble_eq_true rfl, Nat.le_of_ble_eq_true rfl⟩) (pV hB.1 hK hN mh1 th1 (show shp cA 3 _ _ _ = .inr (3, Fs3 _ _ _) from rfl) rfl) rfl rfl hl.1 rfl (lv_room (Nat.le_of_ble_eq_true rfl)) dX8_goUp_13 ⟨Nat.le_of_ble_eq_true rfl, Nat.le_of_ble_eq_true rfl⟩) hLA hA hB hS (by decide) (fun x_5 σ_3 ρ_4 H locs hB fσ_3 pσ_3 hS => ?_)
  have qσ_3 := FR.nil fσ_3
  subst qσ_3
  obtain ⟨lx_5, ux_5⟩ := pσ_3
  refine lv_istore (lv' := [(4, .int x_5), (3, .int x_1), (0, .ref h0), (1, .ref h1), (2, .int p2)]) hx hb dX8_goUp_16 hl (by decide) rfl (fun ls hl => ?_)
  refine lv_iload_n hx hb dX8_goUp_18 rfl (lv_at hl 1 rfl) ?_
  refine lv_iconst (v := 5) hx hb dX8_goUp_19 (by decide) ?_
  refine lv_imul hx hb dX8_goUp_20 ?_
  refine lv_topi (fun x_6 ex_6 => ?_)
  have vx_6 := b_mul (rfl : x_1.toInt = _) (by decide : (5 : Int32).toInt = 5) ex_6 (by omega) (by omega)
  refine lv_iload hx hb dX8_goUp_21 (lv_at hl 0 rfl) ?_
  refine lv_iadd hx hb dX8_goUp_23 ?_
  refine lv_topi (fun x_7 ex_7 => ?_)
  have vx_7 := b_add (rfl : x_6.toInt = _) (rfl : x_5.toInt = _) ex_7 (by omega) (by omega)
  refine lv_istore (lv' := [(5, .int x_7), (4, .int x_5), (3, .int x_1), (0, .ref h0), (1, .ref h1), (2, .int p2)]) hx hb dX8_goUp_24 hl (by decide) rfl (fun ls hl => ?_)
  refine lv_aload_n hx hb dX8_goUp_26 rfl (lv_at hl 3 rfl) ?_
  refine t_gr hx hb hts hown hK hG hB mh0 th0 fq_8_4 rfl mw_1_95 dX8_goUp_27 (fun b_8 hb_8 mb_8 tb_8 => ?_)
  refine lv_iload_n hx hb dX8_goUp_30 rfl (lv_at hl 5 rfl) ?_
  refine lv_iconst (v := 5) hx hb dX8_goUp_31 (by decide) ?_
  refine lv_imul hx hb dX8_goUp_32 ?_
  refine lv_topi (fun x_9 ex_9 => ?_)
  have vx_9 := b_mul (rfl : p2.toInt = _) (by decide : (5 : Int32).toInt = 5) ex_9 (by omega) (by omega)
  refine lv_iload hx hb dX8_goUp_33 (lv_at hl 1 rfl) ?_
  refine lv_iadd hx hb dX8_goUp_35 ?_
  refine lv_topi (fun x_10 ex_10 => ?_)
  have vx_10 := b_add (rfl : x_9.toInt = _) (rfl : x_5.toInt = _) ex_10 (by omega) (by omega)
  refine lv_dup2_11 hx hb dX8_goUp_36 rfl rfl ?_
  refine t_ai hx hb hK hB mb_8 tb_8 ai_49 (fun _ => rfl) (i_in (by omega) (by omega)) dX8_goUp_37 (fun x_11 ex_11 lx_11 ux_11 => ?_)
  have cx_11 := congrArg Int32.toInt ex_11
  refine lv_iconst (v := 1) hx hb dX8_goUp_38 (by decide) ?_
  refine lv_isub hx hb dX8_goUp_39 ?_
  refine lv_topi (fun x_12 ex_12 => ?_)
  try have vx_12 := b_sub (rfl : x_11.toInt = _) (by decide : (1 : Int32).toInt = 1) ex_12 (by omega) (by omega)
  refine t_si hx hb hK hLA hB hS mb_8 tb_8 ai_49 (i_in (by omega) (by omega)) (i_lo _) (i_hi _) (Or.inr (by decide)) dX8_goUp_40 (fun H locs σ_13 eσ_13 hB hS => ?_)
  have k_14 : σ_13 b_8 x_10.toNatClampNeg = x_12 := by rw [eσ_13]; exact up2_same _ _ _ _
  refine lv_aload_n hx hb dX8_goUp_41 rfl (lv_at hl 3 rfl) ?_
  refine t_gr hx hb hts hown hK hG hB mh0 th0 fq_8_5 rfl mw_1_100 dX8_goUp_42 (fun b_15 hb_15 mb_15 tb_15 => ?_)
  refine lv_iload hx hb dX8_goUp_45 (lv_at hl 0 rfl) ?_
  refine lv_bipush (v := 99) hx hb dX8_goUp_47 (by decide) ?_
  refine lv_aload_n hx hb dX8_goUp_49 rfl (lv_at hl 3 rfl) ?_
  refine t_gk hx hb hts hown hK hB mh0 th0 fq_8_5 hb_15 mw_1_100 dX8_goUp_50 ?_
  refine lv_iload hx hb dX8_goUp_53 (lv_at hl 0 rfl) ?_
  refine t_ai hx hb hK hB mb_15 tb_15 ai_50 (fun _ => rfl) (i_in (by omega) (by omega)) dX8_goUp_55 (fun x_16 ex_16 lx_16 ux_16 => ?_)
  have cx_16 := congrArg Int32.toInt ex_16
  refine lv_iconst (v := 1) hx hb dX8_goUp_56 (by decide) ?_
  refine lv_iadd hx hb dX8_goUp_57 ?_
  refine lv_topi (fun x_17 ex_17 => ?_)
  have vx_17 := b_add (rfl : x_16.toInt = _) (by decide : (1 : Int32).toInt = 1) ex_17 (by omega) (by omega)
  refine va_mmin hx hb (hml.trans hl.1.symm) hown (hts _ mw_4_148) (hts _ mw_3_123) (hts _ mw_1_18) (hts _ mw_3_124) (Nat.le_of_ble_eq_true rfl) (Nat.le_of_ble_eq_true rfl) (Nat.zero_le _) (Nat.zero_le _) dX8_goUp_58 ?_
  refine lv_topi (fun x_18 ex_18 => ?_)
  obtain ⟨lx_18, mx_18, ux_18⟩ := m_min (by decide : (99 : Int32).toInt = 99) (rfl : x_17.toInt = _) ex_18
  refine t_si hx hb hK hLA hB hS mb_15 tb_15 ai_50 (i_in (by omega) (by omega)) (by show 0 ≤ _; (first | omega | (subst_vars; omega))) (by show _ ≤ 99; (first | omega | (subst_vars; omega))) (Or.inr (by decide)) dX8_goUp_61 (fun H locs σ_19 eσ_19 hB hS => ?_)
  have k_20 : σ_19 b_15 x_7.toNatClampNeg = x_18 := by rw [eσ_19]; exact up2_same _ _ _ _
  refine lv_aload_n hx hb dX8_goUp_62 rfl (lv_at hl 3 rfl) ?_
  refine t_gk hx hb hts hown hK hB mh0 th0 fq_8_0 hbh mw_1_80 dX8_goUp_63 ?_
  refine lv_iload_n hx hb dX8_goUp_66 rfl (lv_at hl 5 rfl) ?_
  refine lv_dup2_11 hx hb dX8_goUp_67 rfl rfl ?_
  have k_21 : σ_13 bh p2.toNatClampNeg = x_1 := by rw [eσ_13, up2_nea _ _ (tg_ne tbh tb_8 (by decide))]; exact ex_1.symm
  have k_22 : σ_19 bh p2.toNatClampNeg = x_1 := by rw [eσ_19, up2_nea _ _ (tg_ne tbh tb_15 (by decide))]; exact k_21
  refine t_ai hx hb hK hB mbh tbh ai_45 (fun _ => rfl) (i_in (by omega) (by omega)) dX8_goUp_68 (fun x_23 ex_23 lx_23 ux_23 => ?_)
  have qx_23 : x_23 = x_1 := ex_23.trans k_22
  have qx_23 := qx_23.symm
  subst qx_23
  refine lv_iconst (v := 1) hx hb dX8_goUp_69 (by decide) ?_
  refine lv_iadd hx hb dX8_goUp_70 ?_
  refine lv_topi (fun x_24 ex_24 => ?_)
  have vx_24 := b_add (rfl : x_1.toInt = _) (by decide : (1 : Int32).toInt = 1) ex_24 (by omega) (by omega)
  refine t_si hx hb hK hLA hB hS mbh tbh ai_45 (i_in (by omega) (by omega)) (by show 0 ≤ _; (first | omega | (subst_vars; omega))) (by show _ ≤ 8; (first | omega | (subst_vars; omega))) (Or.inr (by decide)) dX8_goUp_71 (fun H locs σ_25 eσ_25 hB hS => ?_)
  have k_26 : σ_25 bh p2.toNatClampNeg = x_24 := by rw [eσ_25]; exact up2_same _ _ _ _
  refine lv_aload_n hx hb dX8_goUp_72 rfl (lv_at hl 3 rfl) ?_
  refine t_gr hx hb hts hown hK hG hB mh0 th0 fq_8_2 rfl mw_1_89 dX8_goUp_73 (fun b_27 hb_27 mb_27 tb_27 => ?_)
  refine lv_iload_n hx hb dX8_goUp_76 rfl (lv_at hl 5 rfl) ?_
  refine lv_dup2_11 hx hb dX8_goUp_77 rfl rfl ?_
  refine t_ai hx hb hK hB mb_27 tb_27 ai_47 (fun _ => rfl) (i_in (by omega) (by omega)) dX8_goUp_78 (fun x_28 ex_28 lx_28 ux_28 => ?_)
  have cx_28 := congrArg Int32.toInt ex_28
  refine lv_iconst (v := 1) hx hb dX8_goUp_79 (by decide) ?_
  refine lv_iadd hx hb dX8_goUp_80 ?_
  refine lv_topi (fun x_29 ex_29 => ?_)
  try have vx_29 := b_add (rfl : x_28.toInt = _) (by decide : (1 : Int32).toInt = 1) ex_29 (by omega) (by omega)
  refine t_si hx hb hK hLA hB hS mb_27 tb_27 ai_47 (i_in (by omega) (by omega)) (i_lo _) (i_hi _) (Or.inr (by decide)) dX8_goUp_81 (fun H locs σ_30 eσ_30 hB hS => ?_)
  have k_31 : σ_30 b_27 p2.toNatClampNeg = x_29 := by rw [eσ_30]; exact up2_same _ _ _ _
  exact W.vret hx hb hr (fun t ht hW => ⟨⟨(σ_30, ρ_4), rfl, ⟨hB.2.1, hB.2.2, trivial⟩, (show TP D cA L T r σ_30 ρ_4 t.heap from by rw [ht]; exact hB.1)⟩, hS.F ht⟩) hS.2.2 dX8_goUp_82
set_option maxHeartbeats 4000000 in
set_option maxRecDepth 100000 in
theorem cy_X8_canGoUp_103 (l : Launch) (D : va_G) (cA : Nat → ClassId) (L : List Nat) (T : Nat → Nat) (r : Rg) (hG : GR L T r) (hL : L.Nodup) (σ : Sg) (ρ : Lg) (hW : WT L ry T σ) (sz : Nat) (h0 : Nat) (mh0 : h0 ∈ L) (th0 : T h0 = 103) (h1 : Nat) (mh1 : h1 ∈ L) (th1 : T h1 = 3) (p2 : Int32) (bh : Nat) (hbh : r h0 0 = some bh) (mbh : bh ∈ L) (tbh : T bh = 125) (w0 : 0 ≤ p2.toInt) (w1 : p2.toInt ≤ 3) : Met l yX8_canGoUp (.code yX8_canGoUp cX8_canGoUp 4 (some .boolean) :: wsA) ({ frames := 1, cells := 0, slots := 0, locals := 22 }) (PR D cA L T r σ ρ sz [.ref h0, .ref h1, .int p2]) (QI D cA L T r ry ([] : List (Nat × Nat)) σ sz (fun x σ1 => ((x.toInt = 0 ∨ x.toInt = 1) ∧ (x.toInt = 1 → (σ1 bh p2.toNatClampNeg).toInt ≤ 7)))) 0 0 (dm L sz) := by
  refine Met.ofW (cc := cX8_canGoUp) (maxL := 4) (ret := (some .boolean)) (by decide) rfl ?_
  intro p e s m args below meth c s₁ B hml hv
  obtain ⟨rfl, hsz, hP, hK, hN⟩ := hv
  have hx := B.exec
  have hb := B.bytes
  have hr := B.returns
  have hts : ∀ w ∈ wsA, w.before _ s = true := fun w h => atoms_spec (ws := .code yX8_canGoUp cX8_canGoUp 4 (some .boolean) :: wsA) B.pre w (List.mem_cons_of_mem _ h)
  have hown : s.vm.findClass RX8 = some m.cls := findClass_of_methodNamed B.named
  subst hsz
  have hLA : LA (dm L s.heap.size) L := ⟨hL, fun a h => Or.inl h⟩
  have hA : ∀ q : Nat, s.heap.size ≤ q → dm L s.heap.size q := fun q h => Or.inr h
  have hS : va_S (dm L s.heap.size) s.heap s.heap [] := va_S.rf
  have hB : TS D cA L T r ry ([] : List (Nat × Nat)) σ σ ρ s.heap := ⟨hP, hW, FR.rf⟩
  have hl := lv_entry ([.ref h0, .ref h1, .int p2]) (n := 4) (Nat.le_of_ble_eq_true rfl)
  rw [lg_entry_eq]
  generalize (lg_sl ([.ref h0, .ref h1, .int p2]) ++ List.replicate (4 - (lg_sl ([.ref h0, .ref h1, .int p2])).length) Slot.unset).toArray = ls at hl ⊢
  have hl : lv_has ls 4 [(0, .ref h0), (1, .ref h1), (2, .int p2)] := hl
  refine lv_aload_n hx hb dX8_canGoUp_0 rfl (lv_at hl 0 rfl) ?_
  refine t_gk hx hb hts hown hK hB mh0 th0 fq_103_0 hbh mw_1_80 dX8_canGoUp_1 ?_
  refine lv_iload_n hx hb dX8_canGoUp_4 rfl (lv_at hl 2 rfl) ?_
  refine t_ai hx hb hK hB mbh tbh ai_125 (fun _ => rfl) (i_in (by omega) (by omega)) dX8_canGoUp_5 (fun x_1 ex_1 lx_1 ux_1 => ?_)
  have cx_1 := congrArg Int32.toInt ex_1
  refine lv_istore_n (lv' := [(3, .int x_1), (0, .ref h0), (1, .ref h1), (2, .int p2)]) hx hb dX8_canGoUp_6 rfl hl (by decide) rfl (fun ls hl => ?_)
  refine lv_iload_n hx hb dX8_canGoUp_7 rfl (lv_at hl 0 rfl) ?_
  refine lv_aload_n hx hb dX8_canGoUp_8 rfl (lv_at hl 2 rfl) ?_
  refine t_gi hx hb hts hown hK hB mh1 th1 fi_3_9 rfl mw_1_183 dX8_canGoUp_9 (fun x_2 ex_2 lx_2 ux_2 => ?_)
  have cx_2 := congrArg Int32.toInt ex_2
  refine lv_icmp_ge (tgt := 40) hx hb dX8_canGoUp_12 (by decide) (fun c_3 => ?_) (fun c_3 => ?_)
  · skip
    have uc_3 := j_le c_3
    refine lv_iconst (v := 0) hx hb dX8_canGoUp_40 (by decide) ?_
    exact W.zret (v := 0) hx hb hr rfl (fun t ht hW => ⟨⟨0, (σ, ρ), rfl, ⟨hB.2.1, hB.2.2, (show ((0 : Int32).toInt = 0 ∨ (0 : Int32).toInt = 1) ∧ ((0 : Int32).toInt = 1 → (σ bh p2.toNatClampNeg).toInt ≤ 7) from ⟨Or.inl (by decide), fun h => absurd h (by decide)⟩)⟩, (show TP D cA L T r σ ρ t.heap from by rw [ht]; exact hB.1)⟩, hS.F ht⟩) hS.2.2 dX8_canGoUp_41
  · skip
    have uc_3 := j_nle c_3
    refine lv_aload_n hx hb dX8_canGoUp_15 rfl (lv_at hl 1 rfl) ?_
    refine t_gr hx hb hts hown hK hG hB mh0 th0 fq_103_4 rfl mw_1_95 dX8_canGoUp_16 (fun b_4 hb_4 mb_4 tb_4 => ?_)
    refine lv_iload_n hx hb dX8_canGoUp_19 rfl (lv_at hl 3 rfl) ?_
    refine lv_iconst (v := 5) hx hb dX8_canGoUp_20 (by decide) ?_
    refine lv_imul hx hb dX8_canGoUp_21 ?_
    refine lv_topi (fun x_5 ex_5 => ?_)
    have vx_5 := b_mul (rfl : p2.toInt = _) (by decide : (5 : Int32).toInt = 5) ex_5 (by omega) (by omega)
    refine lv_aload_n hx hb dX8_canGoUp_22 rfl (lv_at hl 2 rfl) ?_
    refine lv_iload_n hx hb dX8_canGoUp_23 rfl (lv_at hl 0 rfl) ?_
    refine lv_aload_n hx hb dX8_canGoUp_24 rfl (lv_at hl 1 rfl) ?_
    refine t_gi hx hb hts hown hK hB mh0 th0 fi_103_6 rfl mw_1_106 dX8_canGoUp_25 (fun x_6 ex_6 lx_6 ux_6 => ?_)
    have cx_6 := congrArg Int32.toInt ex_6
    refine t_ci (va_runV (As := [.int x_1, .int x_6]) (rest := [.int x_5, .ref b_4]) ⟨hx, hb, hml, hown, hts⟩ (cy_X3_askedAt l D cA L T r hG hLA.1 σ ρ hB.2.1 _ h1 mh1 th1 x_1 x_6 (by first | omega | decide) (by first | omega | decide)) (cV hts mv_X3_askedAt mw_4_143 rfl rfl ⟨Nat.le_of_ble_eq_true rfl, Nat.le_of_ble_eq_true rfl⟩) (pV hB.1 hK hN mh1 th1 (show shp cA 3 _ _ _ = .inr (3, Fs3 _ _ _) from rfl) rfl) rfl rfl hl.1 rfl (lv_room (Nat.le_of_ble_eq_true rfl)) dX8_canGoUp_28 ⟨Nat.le_of_ble_eq_true rfl, Nat.le_of_ble_eq_true rfl⟩) hLA hA hB hS (by decide) (fun x_9 σ_7 ρ_8 H locs hB fσ_7 pσ_7 hS => ?_)
    have qσ_7 := FR.nil fσ_7
    subst qσ_7
    obtain ⟨lx_9, ux_9⟩ := pσ_7
    refine lv_iadd hx hb dX8_canGoUp_31 ?_
    refine lv_topi (fun x_10 ex_10 => ?_)
    have vx_10 := b_add (rfl : x_5.toInt = _) (rfl : x_9.toInt = _) ex_10 (by omega) (by omega)
    refine t_ai hx hb hK hB mb_4 tb_4 ai_129 (fun _ => rfl) (i_in (by omega) (by omega)) dX8_canGoUp_32 (fun x_11 ex_11 lx_11 ux_11 => ?_)
    have cx_11 := congrArg Int32.toInt ex_11
    refine lv_if_le (tgt := 40) hx hb dX8_canGoUp_33 (by decide) (fun c_12 => ?_) (fun c_12 => ?_)
    · skip
      have uc_12 := i_le (n := 0) (by decide) c_12
      refine lv_iconst (v := 0) hx hb dX8_canGoUp_40 (by decide) ?_
      exact W.zret (v := 0) hx hb hr rfl (fun t ht hW => ⟨⟨0, (σ, ρ_8), rfl, ⟨hB.2.1, hB.2.2, (show ((0 : Int32).toInt = 0 ∨ (0 : Int32).toInt = 1) ∧ ((0 : Int32).toInt = 1 → (σ bh p2.toNatClampNeg).toInt ≤ 7) from ⟨Or.inl (by decide), fun h => absurd h (by decide)⟩)⟩, (show TP D cA L T r σ ρ_8 t.heap from by rw [ht]; exact hB.1)⟩, hS.F ht⟩) hS.2.2 dX8_canGoUp_41
    · skip
      have uc_12 := i_nle (n := 0) (by decide) c_12
      refine lv_iconst (v := 1) hx hb dX8_canGoUp_36 (by decide) ?_
      refine lv_goto (tgt := 41) hx hb dX8_canGoUp_37 (by decide) ?_
      exact W.zret (v := 1) hx hb hr rfl (fun t ht hW => ⟨⟨1, (σ, ρ_8), rfl, ⟨hB.2.1, hB.2.2, (show ((1 : Int32).toInt = 0 ∨ (1 : Int32).toInt = 1) ∧ ((1 : Int32).toInt = 1 → (σ bh p2.toNatClampNeg).toInt ≤ 7) from ⟨Or.inr (by decide), fun _ => by omega⟩)⟩, (show TP D cA L T r σ ρ_8 t.heap from by rw [ht]; exact hB.1)⟩, hS.F ht⟩) hS.2.2 dX8_canGoUp_41
set_option maxHeartbeats 4000000 in
set_option maxRecDepth 100000 in
theorem cy_X8_goUp_103 (l : Launch) (D : va_G) (cA : Nat → ClassId) (L : List Nat) (T : Nat → Nat) (r : Rg) (hG : GR L T r) (hL : L.Nodup) (σ : Sg) (ρ : Lg) (hW : WT L ry T σ) (sz : Nat) (h0 : Nat) (mh0 : h0 ∈ L) (th0 : T h0 = 103) (h1 : Nat) (mh1 : h1 ∈ L) (th1 : T h1 = 3) (p2 : Int32) (bh : Nat) (hbh : r h0 0 = some bh) (mbh : bh ∈ L) (tbh : T bh = 125) (w0 : 0 ≤ p2.toInt) (w1 : p2.toInt ≤ 3) (w2 : (σ bh p2.toNatClampNeg).toInt ≤ 7) : Met l yX8_goUp (.code yX8_goUp cX8_goUp 6 none :: wsA) ({ frames := 1, cells := 0, slots := 0, locals := 40 }) (PR D cA L T r σ ρ sz [.ref h0, .ref h1, .int p2]) (QV D cA L T r ry [(125, 1000), (127, 1000), (129, 1000), (130, 1000)] σ sz (fun σ1 => True)) 0 0 (dm L sz) := by
  refine Met.ofW (cc := cX8_goUp) (maxL := 6) (ret := none) (by decide) rfl ?_
  intro p e s m args below meth c s₁ B hml hv
  obtain ⟨rfl, hsz, hP, hK, hN⟩ := hv
  have hx := B.exec
  have hb := B.bytes
  have hr := B.returns
  have hts : ∀ w ∈ wsA, w.before _ s = true := fun w h => atoms_spec (ws := .code yX8_goUp cX8_goUp 6 none :: wsA) B.pre w (List.mem_cons_of_mem _ h)
  have hown : s.vm.findClass RX8 = some m.cls := findClass_of_methodNamed B.named
  subst hsz
  have hLA : LA (dm L s.heap.size) L := ⟨hL, fun a h => Or.inl h⟩
  have hA : ∀ q : Nat, s.heap.size ≤ q → dm L s.heap.size q := fun q h => Or.inr h
  have hS : va_S (dm L s.heap.size) s.heap s.heap [] := va_S.rf
  have hB : TS D cA L T r ry [(125, 1000), (127, 1000), (129, 1000), (130, 1000)] σ σ ρ s.heap := ⟨hP, hW, FR.rf⟩
  have hl := lv_entry ([.ref h0, .ref h1, .int p2]) (n := 6) (Nat.le_of_ble_eq_true rfl)
  rw [lg_entry_eq]
  generalize (lg_sl ([.ref h0, .ref h1, .int p2]) ++ List.replicate (6 - (lg_sl ([.ref h0, .ref h1, .int p2])).length) Slot.unset).toArray = ls at hl ⊢
  have hl : lv_has ls 6 [(0, .ref h0), (1, .ref h1), (2, .int p2)] := hl
  refine lv_aload_n hx hb dX8_goUp_0 rfl (lv_at hl 0 rfl) ?_
  refine t_gk hx hb hts hown hK hB mh0 th0 fq_103_0 hbh mw_1_80 dX8_goUp_1 ?_
  refine lv_iload_n hx hb dX8_goUp_4 rfl (lv_at hl 2 rfl) ?_
  refine t_ai hx hb hK hB mbh tbh ai_125 (fun _ => rfl) (i_in (by omega) (by omega)) dX8_goUp_5 (fun x_1 ex_1 lx_1 ux_1 => ?_)
  have cx_1 := congrArg Int32.toInt ex_1
  refine lv_istore_n (lv' := [(3, .int x_1), (0, .ref h0), (1, .ref h1), (2, .int p2)]) hx hb dX8_goUp_6 rfl hl (by decide) rfl (fun ls hl => ?_)
  refine lv_aload_n hx hb dX8_goUp_7 rfl (lv_at hl 2 rfl) ?_
  refine lv_iload_n hx hb dX8_goUp_8 rfl (lv_at hl 0 rfl) ?_
  refine lv_aload_n hx hb dX8_goUp_9 rfl (lv_at hl 1 rfl) ?_
  refine t_gi hx hb hts hown hK hB mh0 th0 fi_103_6 rfl mw_1_106 dX8_goUp_10 (fun x_2 ex_2 lx_2 ux_2 => ?_)
  have cx_2 := congrArg Int32.toInt ex_2
  refine t_ci (va_runV (As := [.int x_1, .int x_2]) (rest := []) ⟨hx, hb, hml, hown, hts⟩ (cy_X3_askedAt l D cA L T r hG hLA.1 σ ρ hB.2.1 _ h1 mh1 th1 x_1 x_2 (by first | omega | decide) (by first | omega | decide)) (cV hts mv_X3_askedAt mw_4_143 rfl rfl ⟨Nat.le_of_ble_eq_true rfl, Nat.le_of_ble_eq_true rfl⟩) (pV hB.1 hK hN mh1 th1 (show shp cA 3 _ _ _ = .inr (3, Fs3 _ _ _) from rfl) rfl) rfl rfl hl.1 rfl (lv_room (Nat.le_of_ble_eq_true rfl)) dX8_goUp_13 ⟨Nat.le_of_ble_eq_true rfl, Nat.le_of_ble_eq_true rfl⟩) hLA hA hB hS (by decide) (fun x_5 σ_3 ρ_4 H locs hB fσ_3 pσ_3 hS => ?_)
  have qσ_3 := FR.nil fσ_3
  subst qσ_3
  obtain ⟨lx_5, ux_5⟩ := pσ_3
  refine lv_istore (lv' := [(4, .int x_5), (3, .int x_1), (0, .ref h0), (1, .ref h1), (2, .int p2)]) hx hb dX8_goUp_16 hl (by decide) rfl (fun ls hl => ?_)
  refine lv_iload_n hx hb dX8_goUp_18 rfl (lv_at hl 1 rfl) ?_
  refine lv_iconst (v := 5) hx hb dX8_goUp_19 (by decide) ?_
  refine lv_imul hx hb dX8_goUp_20 ?_
  refine lv_topi (fun x_6 ex_6 => ?_)
  have vx_6 := b_mul (rfl : x_1.toInt = _) (by decide : (5 : Int32).toInt = 5) ex_6 (by omega) (by omega)
  refine lv_iload hx hb dX8_goUp_21 (lv_at hl 0 rfl) ?_
  refine lv_iadd hx hb dX8_goUp_23 ?_
  refine lv_topi (fun x_7 ex_7 => ?_)
  have vx_7 := b_add (rfl : x_6.toInt = _) (rfl : x_5.toInt = _) ex_7 (by omega) (by omega)
  refine lv_istore (lv' := [(5, .int x_7), (4, .int x_5), (3, .int x_1), (0, .ref h0), (1, .ref h1), (2, .int p2)]) hx hb dX8_goUp_24 hl (by decide) rfl (fun ls hl => ?_)
  refine lv_aload_n hx hb dX8_goUp_26 rfl (lv_at hl 3 rfl) ?_
  refine t_gr hx hb hts hown hK hG hB mh0 th0 fq_103_4 rfl mw_1_95 dX8_goUp_27 (fun b_8 hb_8 mb_8 tb_8 => ?_)
  refine lv_iload_n hx hb dX8_goUp_30 rfl (lv_at hl 5 rfl) ?_
  refine lv_iconst (v := 5) hx hb dX8_goUp_31 (by decide) ?_
  refine lv_imul hx hb dX8_goUp_32 ?_
  refine lv_topi (fun x_9 ex_9 => ?_)
  have vx_9 := b_mul (rfl : p2.toInt = _) (by decide : (5 : Int32).toInt = 5) ex_9 (by omega) (by omega)
  refine lv_iload hx hb dX8_goUp_33 (lv_at hl 1 rfl) ?_
  refine lv_iadd hx hb dX8_goUp_35 ?_
  refine lv_topi (fun x_10 ex_10 => ?_)
  have vx_10 := b_add (rfl : x_9.toInt = _) (rfl : x_5.toInt = _) ex_10 (by omega) (by omega)
  refine lv_dup2_11 hx hb dX8_goUp_36 rfl rfl ?_
  refine t_ai hx hb hK hB mb_8 tb_8 ai_129 (fun _ => rfl) (i_in (by omega) (by omega)) dX8_goUp_37 (fun x_11 ex_11 lx_11 ux_11 => ?_)
  have cx_11 := congrArg Int32.toInt ex_11
  refine lv_iconst (v := 1) hx hb dX8_goUp_38 (by decide) ?_
  refine lv_isub hx hb dX8_goUp_39 ?_
  refine lv_topi (fun x_12 ex_12 => ?_)
  try have vx_12 := b_sub (rfl : x_11.toInt = _) (by decide : (1 : Int32).toInt = 1) ex_12 (by omega) (by omega)
  refine t_si hx hb hK hLA hB hS mb_8 tb_8 ai_129 (i_in (by omega) (by omega)) (i_lo _) (i_hi _) (Or.inr (by decide)) dX8_goUp_40 (fun H locs σ_13 eσ_13 hB hS => ?_)
  have k_14 : σ_13 b_8 x_10.toNatClampNeg = x_12 := by rw [eσ_13]; exact up2_same _ _ _ _
  refine lv_aload_n hx hb dX8_goUp_41 rfl (lv_at hl 3 rfl) ?_
  refine t_gr hx hb hts hown hK hG hB mh0 th0 fq_103_5 rfl mw_1_100 dX8_goUp_42 (fun b_15 hb_15 mb_15 tb_15 => ?_)
  refine lv_iload hx hb dX8_goUp_45 (lv_at hl 0 rfl) ?_
  refine lv_bipush (v := 99) hx hb dX8_goUp_47 (by decide) ?_
  refine lv_aload_n hx hb dX8_goUp_49 rfl (lv_at hl 3 rfl) ?_
  refine t_gk hx hb hts hown hK hB mh0 th0 fq_103_5 hb_15 mw_1_100 dX8_goUp_50 ?_
  refine lv_iload hx hb dX8_goUp_53 (lv_at hl 0 rfl) ?_
  refine t_ai hx hb hK hB mb_15 tb_15 ai_130 (fun _ => rfl) (i_in (by omega) (by omega)) dX8_goUp_55 (fun x_16 ex_16 lx_16 ux_16 => ?_)
  have cx_16 := congrArg Int32.toInt ex_16
  refine lv_iconst (v := 1) hx hb dX8_goUp_56 (by decide) ?_
  refine lv_iadd hx hb dX8_goUp_57 ?_
  refine lv_topi (fun x_17 ex_17 => ?_)
  have vx_17 := b_add (rfl : x_16.toInt = _) (by decide : (1 : Int32).toInt = 1) ex_17 (by omega) (by omega)
  refine va_mmin hx hb (hml.trans hl.1.symm) hown (hts _ mw_4_148) (hts _ mw_3_123) (hts _ mw_1_18) (hts _ mw_3_124) (Nat.le_of_ble_eq_true rfl) (Nat.le_of_ble_eq_true rfl) (Nat.zero_le _) (Nat.zero_le _) dX8_goUp_58 ?_
  refine lv_topi (fun x_18 ex_18 => ?_)
  obtain ⟨lx_18, mx_18, ux_18⟩ := m_min (by decide : (99 : Int32).toInt = 99) (rfl : x_17.toInt = _) ex_18
  refine t_si hx hb hK hLA hB hS mb_15 tb_15 ai_130 (i_in (by omega) (by omega)) (by show 0 ≤ _; (first | omega | (subst_vars; omega))) (by show _ ≤ 99; (first | omega | (subst_vars; omega))) (Or.inr (by decide)) dX8_goUp_61 (fun H locs σ_19 eσ_19 hB hS => ?_)
  have k_20 : σ_19 b_15 x_7.toNatClampNeg = x_18 := by rw [eσ_19]; exact up2_same _ _ _ _
  refine lv_aload_n hx hb dX8_goUp_62 rfl (lv_at hl 3 rfl) ?_
  refine t_gk hx hb hts hown hK hB mh0 th0 fq_103_0 hbh mw_1_80 dX8_goUp_63 ?_
  refine lv_iload_n hx hb dX8_goUp_66 rfl (lv_at hl 5 rfl) ?_
  refine lv_dup2_11 hx hb dX8_goUp_67 rfl rfl ?_
  have k_21 : σ_13 bh p2.toNatClampNeg = x_1 := by rw [eσ_13, up2_nea _ _ (tg_ne tbh tb_8 (by decide))]; exact ex_1.symm
  have k_22 : σ_19 bh p2.toNatClampNeg = x_1 := by rw [eσ_19, up2_nea _ _ (tg_ne tbh tb_15 (by decide))]; exact k_21
  refine t_ai hx hb hK hB mbh tbh ai_125 (fun _ => rfl) (i_in (by omega) (by omega)) dX8_goUp_68 (fun x_23 ex_23 lx_23 ux_23 => ?_)
  have qx_23 : x_23 = x_1 := ex_23.trans k_22
  have qx_23 := qx_23.symm
  subst qx_23
  refine lv_iconst (v := 1) hx hb dX8_goUp_69 (by decide) ?_
  refine lv_iadd hx hb dX8_goUp_70 ?_
  refine lv_topi (fun x_24 ex_24 => ?_)
  have vx_24 := b_add (rfl : x_1.toInt = _) (by decide : (1 : Int32).toInt = 1) ex_24 (by omega) (by omega)
  refine t_si hx hb hK hLA hB hS mbh tbh ai_125 (i_in (by omega) (by omega)) (by show 0 ≤ _; (first | omega | (subst_vars; omega))) (by show _ ≤ 8; (first | omega | (subst_vars; omega))) (Or.inr (by decide)) dX8_goUp_71 (fun H locs σ_25 eσ_25 hB hS => ?_)
  have k_26 : σ_25 bh p2.toNatClampNeg = x_24 := by rw [eσ_25]; exact up2_same _ _ _ _
  refine lv_aload_n hx hb dX8_goUp_72 rfl (lv_at hl 3 rfl) ?_
  refine t_gr hx hb hts hown hK hG hB mh0 th0 fq_103_2 rfl mw_1_89 dX8_goUp_73 (fun b_27 hb_27 mb_27 tb_27 => ?_)
  refine lv_iload_n hx hb dX8_goUp_76 rfl (lv_at hl 5 rfl) ?_
  refine lv_dup2_11 hx hb dX8_goUp_77 rfl rfl ?_
  refine t_ai hx hb hK hB mb_27 tb_27 ai_127 (fun _ => rfl) (i_in (by omega) (by omega)) dX8_goUp_78 (fun x_28 ex_28 lx_28 ux_28 => ?_)
  have cx_28 := congrArg Int32.toInt ex_28
  refine lv_iconst (v := 1) hx hb dX8_goUp_79 (by decide) ?_
  refine lv_iadd hx hb dX8_goUp_80 ?_
  refine lv_topi (fun x_29 ex_29 => ?_)
  try have vx_29 := b_add (rfl : x_28.toInt = _) (by decide : (1 : Int32).toInt = 1) ex_29 (by omega) (by omega)
  refine t_si hx hb hK hLA hB hS mb_27 tb_27 ai_127 (i_in (by omega) (by omega)) (i_lo _) (i_hi _) (Or.inr (by decide)) dX8_goUp_81 (fun H locs σ_30 eσ_30 hB hS => ?_)
  have k_31 : σ_30 b_27 p2.toNatClampNeg = x_29 := by rw [eσ_30]; exact up2_same _ _ _ _
  exact W.vret hx hb hr (fun t ht hW => ⟨⟨(σ_30, ρ_4), rfl, ⟨hB.2.1, hB.2.2, trivial⟩, (show TP D cA L T r σ_30 ρ_4 t.heap from by rw [ht]; exact hB.1)⟩, hS.F ht⟩) hS.2.2 dX8_goUp_82
theorem dX8_canPick_0 : decode cX8_canPick 0 = .ok (.aload_n 0, 1) := by decide +kernel
theorem dX8_canPick_1 : decode cX8_canPick 1 = .ok (.getfield 9, 3) := by decide +kernel
theorem dX8_canPick_4 : decode cX8_canPick 4 = .ok (.iload_n 2, 1) := by decide +kernel
theorem dX8_canPick_5 : decode cX8_canPick 5 = .ok (.iaload, 1) := by decide +kernel
theorem dX8_canPick_6 : decode cX8_canPick 6 = .ok (.iconst 1, 1) := by decide +kernel
theorem dX8_canPick_7 : decode cX8_canPick 7 = .ok (.isub, 1) := by decide +kernel
theorem dX8_canPick_8 : decode cX8_canPick 8 = .ok (.istore 4, 2) := by decide +kernel
theorem dX8_canPick_10 : decode cX8_canPick 10 = .ok (.iload 4, 2) := by decide +kernel
theorem dX8_canPick_12 : decode cX8_canPick 12 = .ok (.ifCond .lt 46, 3) := by decide +kernel
theorem dX8_canPick_58 : decode cX8_canPick 58 = .ok (.iconst 0, 1) := by decide +kernel
theorem dX8_canPick_59 : decode cX8_canPick 59 = .ok (.ireturn, 1) := by decide +kernel
theorem dX8_canPick_15 : decode cX8_canPick 15 = .ok (.aload_n 0, 1) := by decide +kernel
theorem dX8_canPick_16 : decode cX8_canPick 16 = .ok (.getfield 27, 3) := by decide +kernel
theorem dX8_canPick_19 : decode cX8_canPick 19 = .ok (.iload 4, 2) := by decide +kernel
theorem dX8_canPick_21 : decode cX8_canPick 21 = .ok (.iconst 5, 1) := by decide +kernel
theorem dX8_canPick_22 : decode cX8_canPick 22 = .ok (.imul, 1) := by decide +kernel
theorem dX8_canPick_23 : decode cX8_canPick 23 = .ok (.iload_n 3, 1) := by decide +kernel
theorem dX8_canPick_24 : decode cX8_canPick 24 = .ok (.iadd, 1) := by decide +kernel
theorem dX8_canPick_25 : decode cX8_canPick 25 = .ok (.iaload, 1) := by decide +kernel
theorem dX8_canPick_26 : decode cX8_canPick 26 = .ok (.ifCond .le 32, 3) := by decide +kernel
theorem dX8_canPick_29 : decode cX8_canPick 29 = .ok (.aload_n 0, 1) := by decide +kernel
theorem dX8_canPick_30 : decode cX8_canPick 30 = .ok (.getfield 18, 3) := by decide +kernel
theorem dX8_canPick_33 : decode cX8_canPick 33 = .ok (.iload_n 2, 1) := by decide +kernel
theorem dX8_canPick_34 : decode cX8_canPick 34 = .ok (.iaload, 1) := by decide +kernel
theorem dX8_canPick_35 : decode cX8_canPick 35 = .ok (.aload_n 0, 1) := by decide +kernel
theorem dX8_canPick_36 : decode cX8_canPick 36 = .ok (.getfield 21, 3) := by decide +kernel
theorem dX8_canPick_39 : decode cX8_canPick 39 = .ok (.iload_n 2, 1) := by decide +kernel
theorem dX8_canPick_40 : decode cX8_canPick 40 = .ok (.iaload, 1) := by decide +kernel
theorem dX8_canPick_41 : decode cX8_canPick 41 = .ok (.if_icmp .le 17, 3) := by decide +kernel
theorem dX8_canPick_44 : decode cX8_canPick 44 = .ok (.aload_n 0, 1) := by decide +kernel
theorem dX8_canPick_45 : decode cX8_canPick 45 = .ok (.aload_n 1, 1) := by decide +kernel
theorem dX8_canPick_46 : decode cX8_canPick 46 = .ok (.iload_n 2, 1) := by decide +kernel
theorem dX8_canPick_47 : decode cX8_canPick 47 = .ok (.iload_n 3, 1) := by decide +kernel
theorem dX8_canPick_48 : decode cX8_canPick 48 = .ok (.invokevirtual 76, 3) := by decide +kernel
theorem dX8_canPick_51 : decode cX8_canPick 51 = .ok (.ifCond .eq 7, 3) := by decide +kernel
theorem dX8_canPick_54 : decode cX8_canPick 54 = .ok (.iconst 1, 1) := by decide +kernel
theorem dX8_canPick_55 : decode cX8_canPick 55 = .ok (.goto 4, 3) := by decide +kernel
set_option maxHeartbeats 4000000 in
set_option maxRecDepth 100000 in
theorem cy_X8_canPick (l : Launch) (D : va_G) (cA : Nat → ClassId) (L : List Nat) (T : Nat → Nat) (r : Rg) (hG : GR L T r) (hL : L.Nodup) (σ : Sg) (ρ : Lg) (hW : WT L ry T σ) (sz : Nat) (h0 : Nat) (mh0 : h0 ∈ L) (th0 : T h0 = 8) (h1 : Nat) (mh1 : h1 ∈ L) (th1 : T h1 = 3) (p2 : Int32) (p3 : Int32) (bh : Nat) (hbh : r h0 0 = some bh) (mbh : bh ∈ L) (tbh : T bh = 45) (bp : Nat) (hbp : r h0 5 = some bp) (mbp : bp ∈ L) (tbp : T bp = 50) (w0 : 0 ≤ p2.toInt) (w1 : p2.toInt ≤ 3) (w2 : 0 ≤ p3.toInt) (w3 : p3.toInt ≤ 4) : Met l yX8_canPick (.code yX8_canPick cX8_canPick 5 (some .boolean) :: wsA) ({ frames := 2, cells := 0, slots := 0, locals := 47 }) (PR D cA L T r σ ρ sz [.ref h0, .ref h1, .int p2, .int p3]) (QI D cA L T r ry ([] : List (Nat × Nat)) σ sz (fun x σ1 => ((x.toInt = 0 ∨ x.toInt = 1) ∧ (x.toInt = 1 → 1 ≤ (σ1 bh p2.toNatClampNeg).toInt ∧ 1 ≤ (σ1 bp ((σ1 bh p2.toNatClampNeg - 1) * 5 + p3).toNatClampNeg).toInt)))) 0 0 (dm L sz) := by
  refine Met.ofW (cc := cX8_canPick) (maxL := 5) (ret := (some .boolean)) (by decide) rfl ?_
  intro p e s m args below meth c s₁ B hml hv
  obtain ⟨rfl, hsz, hP, hK, hN⟩ := hv
  have hx := B.exec
  have hb := B.bytes
  have hr := B.returns
  have hts : ∀ w ∈ wsA, w.before _ s = true := fun w h => atoms_spec (ws := .code yX8_canPick cX8_canPick 5 (some .boolean) :: wsA) B.pre w (List.mem_cons_of_mem _ h)
  have hown : s.vm.findClass RX8 = some m.cls := findClass_of_methodNamed B.named
  subst hsz
  have hLA : LA (dm L s.heap.size) L := ⟨hL, fun a h => Or.inl h⟩
  have hA : ∀ q : Nat, s.heap.size ≤ q → dm L s.heap.size q := fun q h => Or.inr h
  have hS : va_S (dm L s.heap.size) s.heap s.heap [] := va_S.rf
  have hB : TS D cA L T r ry ([] : List (Nat × Nat)) σ σ ρ s.heap := ⟨hP, hW, FR.rf⟩
  have hl := lv_entry ([.ref h0, .ref h1, .int p2, .int p3]) (n := 5) (Nat.le_of_ble_eq_true rfl)
  rw [lg_entry_eq]
  generalize (lg_sl ([.ref h0, .ref h1, .int p2, .int p3]) ++ List.replicate (5 - (lg_sl ([.ref h0, .ref h1, .int p2, .int p3])).length) Slot.unset).toArray = ls at hl ⊢
  have hl : lv_has ls 5 [(0, .ref h0), (1, .ref h1), (2, .int p2), (3, .int p3)] := hl
  refine lv_aload_n hx hb dX8_canPick_0 rfl (lv_at hl 0 rfl) ?_
  refine t_gk hx hb hts hown hK hB mh0 th0 fq_8_0 hbh mw_1_80 dX8_canPick_1 ?_
  refine lv_iload_n hx hb dX8_canPick_4 rfl (lv_at hl 2 rfl) ?_
  refine t_ai hx hb hK hB mbh tbh ai_45 (fun _ => rfl) (i_in (by omega) (by omega)) dX8_canPick_5 (fun x_1 ex_1 lx_1 ux_1 => ?_)
  have cx_1 := congrArg Int32.toInt ex_1
  refine lv_iconst (v := 1) hx hb dX8_canPick_6 (by decide) ?_
  refine lv_isub hx hb dX8_canPick_7 ?_
  refine lv_topi (fun x_2 ex_2 => ?_)
  have vx_2 := b_sub (rfl : x_1.toInt = _) (by decide : (1 : Int32).toInt = 1) ex_2 (by omega) (by omega)
  refine lv_istore (lv' := [(4, .int x_2), (0, .ref h0), (1, .ref h1), (2, .int p2), (3, .int p3)]) hx hb dX8_canPick_8 hl (by decide) rfl (fun ls hl => ?_)
  refine lv_iload hx hb dX8_canPick_10 (lv_at hl 0 rfl) ?_
  refine lv_if_lt (tgt := 58) hx hb dX8_canPick_12 (by decide) (fun c_3 => ?_) (fun c_3 => ?_)
  · skip
    have uc_3 := i_lt (n := 0) (by decide) c_3
    refine lv_iconst (v := 0) hx hb dX8_canPick_58 (by decide) ?_
    exact W.zret (v := 0) hx hb hr rfl (fun t ht hW => ⟨⟨0, (σ, ρ), rfl, ⟨hB.2.1, hB.2.2, (show ((0 : Int32).toInt = 0 ∨ (0 : Int32).toInt = 1) ∧ ((0 : Int32).toInt = 1 → 1 ≤ (σ bh p2.toNatClampNeg).toInt ∧ 1 ≤ (σ bp ((σ bh p2.toNatClampNeg - 1) * 5 + p3).toNatClampNeg).toInt) from ⟨Or.inl (by decide), fun h => absurd h (by decide)⟩)⟩, (show TP D cA L T r σ ρ t.heap from by rw [ht]; exact hB.1)⟩, hS.F ht⟩) hS.2.2 dX8_canPick_59
  · skip
    have uc_3 := i_nlt (n := 0) (by decide) c_3
    refine lv_aload_n hx hb dX8_canPick_15 rfl (lv_at hl 1 rfl) ?_
    refine t_gk hx hb hts hown hK hB mh0 th0 fq_8_5 hbp mw_1_100 dX8_canPick_16 ?_
    refine lv_iload hx hb dX8_canPick_19 (lv_at hl 0 rfl) ?_
    refine lv_iconst (v := 5) hx hb dX8_canPick_21 (by decide) ?_
    refine lv_imul hx hb dX8_canPick_22 ?_
    refine lv_topi (fun x_4 ex_4 => ?_)
    have vx_4 := b_mul (rfl : x_2.toInt = _) (by decide : (5 : Int32).toInt = 5) ex_4 (by omega) (by omega)
    refine lv_iload_n hx hb dX8_canPick_23 rfl (lv_at hl 4 rfl) ?_
    refine lv_iadd hx hb dX8_canPick_24 ?_
    refine lv_topi (fun x_5 ex_5 => ?_)
    have vx_5 := b_add (rfl : x_4.toInt = _) (rfl : p3.toInt = _) ex_5 (by omega) (by omega)
    refine t_ai hx hb hK hB mbp tbp ai_50 (fun _ => rfl) (i_in (by omega) (by omega)) dX8_canPick_25 (fun x_6 ex_6 lx_6 ux_6 => ?_)
    have cx_6 := congrArg Int32.toInt ex_6
    refine lv_if_le (tgt := 58) hx hb dX8_canPick_26 (by decide) (fun c_7 => ?_) (fun c_7 => ?_)
    · skip
      have uc_7 := i_le (n := 0) (by decide) c_7
      refine lv_iconst (v := 0) hx hb dX8_canPick_58 (by decide) ?_
      exact W.zret (v := 0) hx hb hr rfl (fun t ht hW => ⟨⟨0, (σ, ρ), rfl, ⟨hB.2.1, hB.2.2, (show ((0 : Int32).toInt = 0 ∨ (0 : Int32).toInt = 1) ∧ ((0 : Int32).toInt = 1 → 1 ≤ (σ bh p2.toNatClampNeg).toInt ∧ 1 ≤ (σ bp ((σ bh p2.toNatClampNeg - 1) * 5 + p3).toNatClampNeg).toInt) from ⟨Or.inl (by decide), fun h => absurd h (by decide)⟩)⟩, (show TP D cA L T r σ ρ t.heap from by rw [ht]; exact hB.1)⟩, hS.F ht⟩) hS.2.2 dX8_canPick_59
    · skip
      have uc_7 := i_nle (n := 0) (by decide) c_7
      refine lv_aload_n hx hb dX8_canPick_29 rfl (lv_at hl 1 rfl) ?_
      refine t_gr hx hb hts hown hK hG hB mh0 th0 fq_8_2 rfl mw_1_89 dX8_canPick_30 (fun b_8 hb_8 mb_8 tb_8 => ?_)
      refine lv_iload_n hx hb dX8_canPick_33 rfl (lv_at hl 3 rfl) ?_
      refine t_ai hx hb hK hB mb_8 tb_8 ai_47 (fun _ => rfl) (i_in (by omega) (by omega)) dX8_canPick_34 (fun x_9 ex_9 lx_9 ux_9 => ?_)
      have cx_9 := congrArg Int32.toInt ex_9
      refine lv_aload_n hx hb dX8_canPick_35 rfl (lv_at hl 1 rfl) ?_
      refine t_gr hx hb hts hown hK hG hB mh0 th0 fq_8_3 rfl mw_1_92 dX8_canPick_36 (fun b_10 hb_10 mb_10 tb_10 => ?_)
      refine lv_iload_n hx hb dX8_canPick_39 rfl (lv_at hl 3 rfl) ?_
      refine t_ai hx hb hK hB mb_10 tb_10 ai_48 (fun _ => rfl) (i_in (by omega) (by omega)) dX8_canPick_40 (fun x_11 ex_11 lx_11 ux_11 => ?_)
      have cx_11 := congrArg Int32.toInt ex_11
      refine lv_icmp_le (tgt := 58) hx hb dX8_canPick_41 (by decide) (fun c_12 => ?_) (fun c_12 => ?_)
      · skip
        have uc_12 := j_le c_12
        refine lv_iconst (v := 0) hx hb dX8_canPick_58 (by decide) ?_
        exact W.zret (v := 0) hx hb hr rfl (fun t ht hW => ⟨⟨0, (σ, ρ), rfl, ⟨hB.2.1, hB.2.2, (show ((0 : Int32).toInt = 0 ∨ (0 : Int32).toInt = 1) ∧ ((0 : Int32).toInt = 1 → 1 ≤ (σ bh p2.toNatClampNeg).toInt ∧ 1 ≤ (σ bp ((σ bh p2.toNatClampNeg - 1) * 5 + p3).toNatClampNeg).toInt) from ⟨Or.inl (by decide), fun h => absurd h (by decide)⟩)⟩, (show TP D cA L T r σ ρ t.heap from by rw [ht]; exact hB.1)⟩, hS.F ht⟩) hS.2.2 dX8_canPick_59
      · skip
        have uc_12 := j_nle c_12
        refine lv_aload_n hx hb dX8_canPick_44 rfl (lv_at hl 1 rfl) ?_
        refine lv_aload_n hx hb dX8_canPick_45 rfl (lv_at hl 2 rfl) ?_
        refine lv_iload_n hx hb dX8_canPick_46 rfl (lv_at hl 3 rfl) ?_
        refine lv_iload_n hx hb dX8_canPick_47 rfl (lv_at hl 4 rfl) ?_
        refine t_ci (va_runV (As := [.ref h1, .int p2, .int p3]) (rest := []) ⟨hx, hb, hml, hown, hts⟩ (cy_X8_canCarry l D cA L T r hG hLA.1 σ ρ hB.2.1 _ h0 mh0 th0 h1 mh1 th1 p2 p3 (by first | omega | decide) (by first | omega | decide) (by first | omega | decide) (by first | omega | decide)) (cV hts mv_X8_canCarry mw_4_161 rfl rfl ⟨Nat.le_of_ble_eq_true rfl, Nat.le_of_ble_eq_true rfl⟩) (pV hB.1 hK hN mh0 th0 (show shp cA 8 _ _ _ = .inr (8, Fs8 _ _ _) from rfl) rfl) rfl rfl hl.1 rfl (lv_room (Nat.le_of_ble_eq_true rfl)) dX8_canPick_48 ⟨Nat.le_of_ble_eq_true rfl, Nat.le_of_ble_eq_true rfl⟩) hLA hA hB hS (by decide) (fun x_15 σ_13 ρ_14 H locs hB fσ_13 pσ_13 hS => ?_)
        have qσ_13 := FR.nil fσ_13
        subst qσ_13
        obtain ⟨lx_15, ux_15⟩ := pσ_13
        refine lv_if_eq (tgt := 58) hx hb dX8_canPick_51 (by decide) (fun c_16 => ?_) (fun c_16 => ?_)
        · skip
          have uc_16 := i_eq (n := 0) (by decide) c_16
          refine lv_iconst (v := 0) hx hb dX8_canPick_58 (by decide) ?_
          exact W.zret (v := 0) hx hb hr rfl (fun t ht hW => ⟨⟨0, (σ, ρ_14), rfl, ⟨hB.2.1, hB.2.2, (show ((0 : Int32).toInt = 0 ∨ (0 : Int32).toInt = 1) ∧ ((0 : Int32).toInt = 1 → 1 ≤ (σ bh p2.toNatClampNeg).toInt ∧ 1 ≤ (σ bp ((σ bh p2.toNatClampNeg - 1) * 5 + p3).toNatClampNeg).toInt) from ⟨Or.inl (by decide), fun h => absurd h (by decide)⟩)⟩, (show TP D cA L T r σ ρ_14 t.heap from by rw [ht]; exact hB.1)⟩, hS.F ht⟩) hS.2.2 dX8_canPick_59
        · skip
          have uc_16 := i_ne (n := 0) (by decide) c_16
          refine lv_iconst (v := 1) hx hb dX8_canPick_54 (by decide) ?_
          refine lv_goto (tgt := 59) hx hb dX8_canPick_55 (by decide) ?_
          exact W.zret (v := 1) hx hb hr rfl (fun t ht hW => ⟨⟨1, (σ, ρ_14), rfl, ⟨hB.2.1, hB.2.2, (show ((1 : Int32).toInt = 0 ∨ (1 : Int32).toInt = 1) ∧ ((1 : Int32).toInt = 1 → 1 ≤ (σ bh p2.toNatClampNeg).toInt ∧ 1 ≤ (σ bp ((σ bh p2.toNatClampNeg - 1) * 5 + p3).toNatClampNeg).toInt) from ⟨Or.inr (by decide), fun _ => by first | omega | (subst_vars; omega)⟩)⟩, (show TP D cA L T r σ ρ_14 t.heap from by rw [ht]; exact hB.1)⟩, hS.F ht⟩) hS.2.2 dX8_canPick_59
theorem dX8_pick_0 : decode cX8_pick 0 = .ok (.aload_n 0, 1) := by decide +kernel
theorem dX8_pick_1 : decode cX8_pick 1 = .ok (.getfield 27, 3) := by decide +kernel
theorem dX8_pick_4 : decode cX8_pick 4 = .ok (.aload_n 0, 1) := by decide +kernel
theorem dX8_pick_5 : decode cX8_pick 5 = .ok (.getfield 9, 3) := by decide +kernel
theorem dX8_pick_8 : decode cX8_pick 8 = .ok (.iload_n 1, 1) := by decide +kernel
theorem dX8_pick_9 : decode cX8_pick 9 = .ok (.iaload, 1) := by decide +kernel
theorem dX8_pick_10 : decode cX8_pick 10 = .ok (.iconst 1, 1) := by decide +kernel
theorem dX8_pick_11 : decode cX8_pick 11 = .ok (.isub, 1) := by decide +kernel
theorem dX8_pick_12 : decode cX8_pick 12 = .ok (.iconst 5, 1) := by decide +kernel
theorem dX8_pick_13 : decode cX8_pick 13 = .ok (.imul, 1) := by decide +kernel
theorem dX8_pick_14 : decode cX8_pick 14 = .ok (.iload_n 2, 1) := by decide +kernel
theorem dX8_pick_15 : decode cX8_pick 15 = .ok (.iadd, 1) := by decide +kernel
theorem dX8_pick_16 : decode cX8_pick 16 = .ok (.dup2, 1) := by decide +kernel
theorem dX8_pick_17 : decode cX8_pick 17 = .ok (.iaload, 1) := by decide +kernel
theorem dX8_pick_18 : decode cX8_pick 18 = .ok (.iconst 1, 1) := by decide +kernel
theorem dX8_pick_19 : decode cX8_pick 19 = .ok (.isub, 1) := by decide +kernel
theorem dX8_pick_20 : decode cX8_pick 20 = .ok (.iastore, 1) := by decide +kernel
theorem dX8_pick_21 : decode cX8_pick 21 = .ok (.aload_n 0, 1) := by decide +kernel
theorem dX8_pick_22 : decode cX8_pick 22 = .ok (.getfield 24, 3) := by decide +kernel
theorem dX8_pick_25 : decode cX8_pick 25 = .ok (.iload_n 1, 1) := by decide +kernel
theorem dX8_pick_26 : decode cX8_pick 26 = .ok (.iconst 5, 1) := by decide +kernel
theorem dX8_pick_27 : decode cX8_pick 27 = .ok (.imul, 1) := by decide +kernel
theorem dX8_pick_28 : decode cX8_pick 28 = .ok (.iload_n 2, 1) := by decide +kernel
theorem dX8_pick_29 : decode cX8_pick 29 = .ok (.iadd, 1) := by decide +kernel
theorem dX8_pick_30 : decode cX8_pick 30 = .ok (.dup2, 1) := by decide +kernel
theorem dX8_pick_31 : decode cX8_pick 31 = .ok (.iaload, 1) := by decide +kernel
theorem dX8_pick_32 : decode cX8_pick 32 = .ok (.iconst 1, 1) := by decide +kernel
theorem dX8_pick_33 : decode cX8_pick 33 = .ok (.iadd, 1) := by decide +kernel
theorem dX8_pick_34 : decode cX8_pick 34 = .ok (.iastore, 1) := by decide +kernel
theorem dX8_pick_35 : decode cX8_pick 35 = .ok (.aload_n 0, 1) := by decide +kernel
theorem dX8_pick_36 : decode cX8_pick 36 = .ok (.getfield 21, 3) := by decide +kernel
theorem dX8_pick_39 : decode cX8_pick 39 = .ok (.iload_n 1, 1) := by decide +kernel
theorem dX8_pick_40 : decode cX8_pick 40 = .ok (.dup2, 1) := by decide +kernel
theorem dX8_pick_41 : decode cX8_pick 41 = .ok (.iaload, 1) := by decide +kernel
theorem dX8_pick_42 : decode cX8_pick 42 = .ok (.iconst 1, 1) := by decide +kernel
theorem dX8_pick_43 : decode cX8_pick 43 = .ok (.iadd, 1) := by decide +kernel
theorem dX8_pick_44 : decode cX8_pick 44 = .ok (.iastore, 1) := by decide +kernel
theorem dX8_pick_45 : decode cX8_pick 45 = .ok (.return_, 1) := by decide +kernel
set_option maxHeartbeats 4000000 in
set_option maxRecDepth 100000 in
theorem cy_X8_pick (l : Launch) (D : va_G) (cA : Nat → ClassId) (L : List Nat) (T : Nat → Nat) (r : Rg) (hG : GR L T r) (hL : L.Nodup) (σ : Sg) (ρ : Lg) (hW : WT L ry T σ) (sz : Nat) (h0 : Nat) (mh0 : h0 ∈ L) (th0 : T h0 = 8) (p1 : Int32) (p2 : Int32) (bh : Nat) (hbh : r h0 0 = some bh) (mbh : bh ∈ L) (tbh : T bh = 45) (bp : Nat) (hbp : r h0 5 = some bp) (mbp : bp ∈ L) (tbp : T bp = 50) (w0 : 0 ≤ p1.toInt) (w1 : p1.toInt ≤ 3) (w2 : 0 ≤ p2.toInt) (w3 : p2.toInt ≤ 4) (w4 : 1 ≤ (σ bh p1.toNatClampNeg).toInt) (w5 : 1 ≤ (σ bp ((σ bh p1.toNatClampNeg - 1) * 5 + p2).toNatClampNeg).toInt) : Met l yX8_pick (.code yX8_pick cX8_pick 3 none :: wsA) ({ frames := 0, cells := 0, slots := 0, locals := 0 }) (PR D cA L T r σ ρ sz [.ref h0, .int p1, .int p2]) (QV D cA L T r ry [(48, 1000), (49, 1000), (50, 1000)] σ sz (fun σ1 => True)) 0 0 (dm L sz) := by
  refine Met.ofW (cc := cX8_pick) (maxL := 3) (ret := none) (by decide) rfl ?_
  intro p e s m args below meth c s₁ B hml hv
  obtain ⟨rfl, hsz, hP, hK, hN⟩ := hv
  have hx := B.exec
  have hb := B.bytes
  have hr := B.returns
  have hts : ∀ w ∈ wsA, w.before _ s = true := fun w h => atoms_spec (ws := .code yX8_pick cX8_pick 3 none :: wsA) B.pre w (List.mem_cons_of_mem _ h)
  have hown : s.vm.findClass RX8 = some m.cls := findClass_of_methodNamed B.named
  subst hsz
  have hLA : LA (dm L s.heap.size) L := ⟨hL, fun a h => Or.inl h⟩
  have hA : ∀ q : Nat, s.heap.size ≤ q → dm L s.heap.size q := fun q h => Or.inr h
  have hS : va_S (dm L s.heap.size) s.heap s.heap [] := va_S.rf
  have hB : TS D cA L T r ry [(48, 1000), (49, 1000), (50, 1000)] σ σ ρ s.heap := ⟨hP, hW, FR.rf⟩
  have hl := lv_entry ([.ref h0, .int p1, .int p2]) (n := 3) (Nat.le_of_ble_eq_true rfl)
  rw [lg_entry_eq]
  generalize (lg_sl ([.ref h0, .int p1, .int p2]) ++ List.replicate (3 - (lg_sl ([.ref h0, .int p1, .int p2])).length) Slot.unset).toArray = ls at hl ⊢
  have hl : lv_has ls 3 [(0, .ref h0), (1, .int p1), (2, .int p2)] := hl
  refine lv_aload_n hx hb dX8_pick_0 rfl (lv_at hl 0 rfl) ?_
  refine t_gk hx hb hts hown hK hB mh0 th0 fq_8_5 hbp mw_1_100 dX8_pick_1 ?_
  refine lv_aload_n hx hb dX8_pick_4 rfl (lv_at hl 0 rfl) ?_
  refine t_gk hx hb hts hown hK hB mh0 th0 fq_8_0 hbh mw_1_80 dX8_pick_5 ?_
  refine lv_iload_n hx hb dX8_pick_8 rfl (lv_at hl 1 rfl) ?_
  refine t_ai hx hb hK hB mbh tbh ai_45 (fun _ => rfl) (i_in (by omega) (by omega)) dX8_pick_9 (fun x_1 ex_1 lx_1 ux_1 => ?_)
  have cx_1 := congrArg Int32.toInt ex_1
  refine lv_iconst (v := 1) hx hb dX8_pick_10 (by decide) ?_
  refine lv_isub hx hb dX8_pick_11 ?_
  refine lv_topi (fun x_2 ex_2 => ?_)
  have vx_2 := b_sub (rfl : x_1.toInt = _) (by decide : (1 : Int32).toInt = 1) ex_2 (by omega) (by omega)
  refine lv_iconst (v := 5) hx hb dX8_pick_12 (by decide) ?_
  refine lv_imul hx hb dX8_pick_13 ?_
  refine lv_topi (fun x_3 ex_3 => ?_)
  have vx_3 := b_mul (rfl : x_2.toInt = _) (by decide : (5 : Int32).toInt = 5) ex_3 (by omega) (by omega)
  refine lv_iload_n hx hb dX8_pick_14 rfl (lv_at hl 2 rfl) ?_
  refine lv_iadd hx hb dX8_pick_15 ?_
  refine lv_topi (fun x_4 ex_4 => ?_)
  have vx_4 := b_add (rfl : x_3.toInt = _) (rfl : p2.toInt = _) ex_4 (by omega) (by omega)
  refine lv_dup2_11 hx hb dX8_pick_16 rfl rfl ?_
  refine t_ai hx hb hK hB mbp tbp ai_50 (fun _ => rfl) (i_in (by omega) (by omega)) dX8_pick_17 (fun x_5 ex_5 lx_5 ux_5 => ?_)
  have cx_5 := congrArg Int32.toInt ex_5
  refine lv_iconst (v := 1) hx hb dX8_pick_18 (by decide) ?_
  refine lv_isub hx hb dX8_pick_19 ?_
  refine lv_topi (fun x_6 ex_6 => ?_)
  have vx_6 := b_sub (rfl : x_5.toInt = _) (by decide : (1 : Int32).toInt = 1) ex_6 (by omega) (by omega)
  refine t_si hx hb hK hLA hB hS mbp tbp ai_50 (i_in (by omega) (by omega)) (by show 0 ≤ _; (first | omega | (subst_vars; omega))) (by show _ ≤ 99; (first | omega | (subst_vars; omega))) (Or.inr (by decide)) dX8_pick_20 (fun H locs σ_7 eσ_7 hB hS => ?_)
  have k_8 : σ_7 bp x_4.toNatClampNeg = x_6 := by rw [eσ_7]; exact up2_same _ _ _ _
  refine lv_aload_n hx hb dX8_pick_21 rfl (lv_at hl 0 rfl) ?_
  refine t_gr hx hb hts hown hK hG hB mh0 th0 fq_8_4 rfl mw_1_95 dX8_pick_22 (fun b_9 hb_9 mb_9 tb_9 => ?_)
  refine lv_iload_n hx hb dX8_pick_25 rfl (lv_at hl 1 rfl) ?_
  refine lv_iconst (v := 5) hx hb dX8_pick_26 (by decide) ?_
  refine lv_imul hx hb dX8_pick_27 ?_
  refine lv_topi (fun x_10 ex_10 => ?_)
  have vx_10 := b_mul (rfl : p1.toInt = _) (by decide : (5 : Int32).toInt = 5) ex_10 (by omega) (by omega)
  refine lv_iload_n hx hb dX8_pick_28 rfl (lv_at hl 2 rfl) ?_
  refine lv_iadd hx hb dX8_pick_29 ?_
  refine lv_topi (fun x_11 ex_11 => ?_)
  have vx_11 := b_add (rfl : x_10.toInt = _) (rfl : p2.toInt = _) ex_11 (by omega) (by omega)
  refine lv_dup2_11 hx hb dX8_pick_30 rfl rfl ?_
  refine t_ai hx hb hK hB mb_9 tb_9 ai_49 (fun _ => rfl) (i_in (by omega) (by omega)) dX8_pick_31 (fun x_12 ex_12 lx_12 ux_12 => ?_)
  have cx_12 := congrArg Int32.toInt ex_12
  refine lv_iconst (v := 1) hx hb dX8_pick_32 (by decide) ?_
  refine lv_iadd hx hb dX8_pick_33 ?_
  refine lv_topi (fun x_13 ex_13 => ?_)
  try have vx_13 := b_add (rfl : x_12.toInt = _) (by decide : (1 : Int32).toInt = 1) ex_13 (by omega) (by omega)
  refine t_si hx hb hK hLA hB hS mb_9 tb_9 ai_49 (i_in (by omega) (by omega)) (i_lo _) (i_hi _) (Or.inr (by decide)) dX8_pick_34 (fun H locs σ_14 eσ_14 hB hS => ?_)
  have k_15 : σ_14 b_9 x_11.toNatClampNeg = x_13 := by rw [eσ_14]; exact up2_same _ _ _ _
  refine lv_aload_n hx hb dX8_pick_35 rfl (lv_at hl 0 rfl) ?_
  refine t_gr hx hb hts hown hK hG hB mh0 th0 fq_8_3 rfl mw_1_92 dX8_pick_36 (fun b_16 hb_16 mb_16 tb_16 => ?_)
  refine lv_iload_n hx hb dX8_pick_39 rfl (lv_at hl 1 rfl) ?_
  refine lv_dup2_11 hx hb dX8_pick_40 rfl rfl ?_
  refine t_ai hx hb hK hB mb_16 tb_16 ai_48 (fun _ => rfl) (i_in (by omega) (by omega)) dX8_pick_41 (fun x_17 ex_17 lx_17 ux_17 => ?_)
  have cx_17 := congrArg Int32.toInt ex_17
  refine lv_iconst (v := 1) hx hb dX8_pick_42 (by decide) ?_
  refine lv_iadd hx hb dX8_pick_43 ?_
  refine lv_topi (fun x_18 ex_18 => ?_)
  try have vx_18 := b_add (rfl : x_17.toInt = _) (by decide : (1 : Int32).toInt = 1) ex_18 (by omega) (by omega)
  refine t_si hx hb hK hLA hB hS mb_16 tb_16 ai_48 (i_in (by omega) (by omega)) (i_lo _) (i_hi _) (Or.inr (by decide)) dX8_pick_44 (fun H locs σ_19 eσ_19 hB hS => ?_)
  have k_20 : σ_19 b_16 p1.toNatClampNeg = x_18 := by rw [eσ_19]; exact up2_same _ _ _ _
  exact W.vret hx hb hr (fun t ht hW => ⟨⟨(σ_19, ρ), rfl, ⟨hB.2.1, hB.2.2, trivial⟩, (show TP D cA L T r σ_19 ρ t.heap from by rw [ht]; exact hB.1)⟩, hS.F ht⟩) hS.2.2 dX8_pick_45
