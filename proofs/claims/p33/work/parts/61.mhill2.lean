theorem dX12_weightRead_0 : decode cX12_weightRead 0 = .ok (.iconst 0, 1) := by decide +kernel
theorem dX12_weightRead_1 : decode cX12_weightRead 1 = .ok (.istore_n 2, 1) := by decide +kernel
theorem dX12_weightRead_2 : decode cX12_weightRead 2 = .ok (.iconst 0, 1) := by decide +kernel
theorem dX12_weightRead_3 : decode cX12_weightRead 3 = .ok (.istore_n 3, 1) := by decide +kernel
theorem dX12_weightRead_4 : decode cX12_weightRead 4 = .ok (.iload_n 3, 1) := by decide +kernel
theorem dX12_weightRead_5 : decode cX12_weightRead 5 = .ok (.aload_n 0, 1) := by decide +kernel
theorem dX12_weightRead_6 : decode cX12_weightRead 6 = .ok (.getfield 26, 3) := by decide +kernel
theorem dX12_weightRead_9 : decode cX12_weightRead 9 = .ok (.iconst 1, 1) := by decide +kernel
theorem dX12_weightRead_10 : decode cX12_weightRead 10 = .ok (.iaload, 1) := by decide +kernel
theorem dX12_weightRead_11 : decode cX12_weightRead 11 = .ok (.if_icmp .ge 40, 3) := by decide +kernel
theorem dX12_weightRead_14 : decode cX12_weightRead 14 = .ok (.iload_n 2, 1) := by decide +kernel
theorem dX12_weightRead_15 : decode cX12_weightRead 15 = .ok (.aload_n 0, 1) := by decide +kernel
theorem dX12_weightRead_16 : decode cX12_weightRead 16 = .ok (.getfield 26, 3) := by decide +kernel
theorem dX12_weightRead_19 : decode cX12_weightRead 19 = .ok (.bipush 58, 2) := by decide +kernel
theorem dX12_weightRead_21 : decode cX12_weightRead 21 = .ok (.bipush 9, 2) := by decide +kernel
theorem dX12_weightRead_23 : decode cX12_weightRead 23 = .ok (.iload_n 1, 1) := by decide +kernel
theorem dX12_weightRead_24 : decode cX12_weightRead 24 = .ok (.imul, 1) := by decide +kernel
theorem dX12_weightRead_25 : decode cX12_weightRead 25 = .ok (.iadd, 1) := by decide +kernel
theorem dX12_weightRead_26 : decode cX12_weightRead 26 = .ok (.iconst 4, 1) := by decide +kernel
theorem dX12_weightRead_27 : decode cX12_weightRead 27 = .ok (.iadd, 1) := by decide +kernel
theorem dX12_weightRead_28 : decode cX12_weightRead 28 = .ok (.iload_n 3, 1) := by decide +kernel
theorem dX12_weightRead_29 : decode cX12_weightRead 29 = .ok (.iadd, 1) := by decide +kernel
theorem dX12_weightRead_30 : decode cX12_weightRead 30 = .ok (.iaload, 1) := by decide +kernel
theorem dX12_weightRead_31 : decode cX12_weightRead 31 = .ok (.aload_n 0, 1) := by decide +kernel
theorem dX12_weightRead_32 : decode cX12_weightRead 32 = .ok (.getfield 26, 3) := by decide +kernel
theorem dX12_weightRead_35 : decode cX12_weightRead 35 = .ok (.bipush 94, 2) := by decide +kernel
theorem dX12_weightRead_37 : decode cX12_weightRead 37 = .ok (.iconst 3, 1) := by decide +kernel
theorem dX12_weightRead_38 : decode cX12_weightRead 38 = .ok (.iload_n 3, 1) := by decide +kernel
theorem dX12_weightRead_39 : decode cX12_weightRead 39 = .ok (.imul, 1) := by decide +kernel
theorem dX12_weightRead_40 : decode cX12_weightRead 40 = .ok (.iadd, 1) := by decide +kernel
theorem dX12_weightRead_41 : decode cX12_weightRead 41 = .ok (.iaload, 1) := by decide +kernel
theorem dX12_weightRead_42 : decode cX12_weightRead 42 = .ok (.imul, 1) := by decide +kernel
theorem dX12_weightRead_43 : decode cX12_weightRead 43 = .ok (.iadd, 1) := by decide +kernel
theorem dX12_weightRead_44 : decode cX12_weightRead 44 = .ok (.istore_n 2, 1) := by decide +kernel
theorem dX12_weightRead_45 : decode cX12_weightRead 45 = .ok (.iinc 3 1, 3) := by decide +kernel
theorem dX12_weightRead_48 : decode cX12_weightRead 48 = .ok (.goto (-44), 3) := by decide +kernel
theorem dX12_weightRead_51 : decode cX12_weightRead 51 = .ok (.iload_n 2, 1) := by decide +kernel
theorem dX12_weightRead_52 : decode cX12_weightRead 52 = .ok (.ireturn, 1) := by decide +kernel
set_option maxHeartbeats 4000000 in
set_option maxRecDepth 100000 in
theorem cz_X12_weightRead (l : Launch) (D : va_G) (cA : Nat → ClassId) (L : List Nat) (T : Nat → Nat) (r : Rg) (hG : GR L T r) (hL : L.Nodup) (σ : Sg) (ρ : Lg) (hW : WT L ry T σ) (sz : Nat) (h0 : Nat) (mh0 : h0 ∈ L) (th0 : T h0 = 12) (p1 : Int32) (bd : Nat) (hbd : r h0 7 = some bd) (mbd : bd ∈ L) (tbd : T bd = 66) (w0 : 0 ≤ p1.toInt) (w1 : p1.toInt ≤ 3) : Met l yX12_weightRead (.code yX12_weightRead cX12_weightRead 4 (some .int) :: wsA) ({ frames := 0, cells := 0, slots := 0, locals := 0 }) (PR D cA L T r σ ρ sz [.ref h0, .int p1]) (QI D cA L T r ry ([] : List (Nat × Nat)) σ sz (fun x σ1 => True)) 0 0 (dm L sz) := by
  refine Met.ofW (cc := cX12_weightRead) (maxL := 4) (ret := (some .int)) (by decide) rfl ?_
  intro p e s m args below meth c s₁ B hml hv
  obtain ⟨rfl, hsz, hP, hK, hN⟩ := hv
  have hx := B.exec
  have hb := B.bytes
  have hr := B.returns
  have hts : ∀ w ∈ wsA, w.before _ s = true := fun w h => atoms_spec (ws := .code yX12_weightRead cX12_weightRead 4 (some .int) :: wsA) B.pre w (List.mem_cons_of_mem _ h)
  have hown : s.vm.findClass RX12 = some m.cls := findClass_of_methodNamed B.named
  subst hsz
  have hLA : LA (dm L s.heap.size) L := ⟨hL, fun a h => Or.inl h⟩
  have hA : ∀ q : Nat, s.heap.size ≤ q → dm L s.heap.size q := fun q h => Or.inr h
  have hS : va_S (dm L s.heap.size) s.heap s.heap [] := va_S.rf
  have hB : TS D cA L T r ry ([] : List (Nat × Nat)) σ σ ρ s.heap := ⟨hP, hW, FR.rf⟩
  have hl := lv_entry ([.ref h0, .int p1]) (n := 4) (Nat.le_of_ble_eq_true rfl)
  rw [lg_entry_eq]
  generalize (lg_sl ([.ref h0, .int p1]) ++ List.replicate (4 - (lg_sl ([.ref h0, .int p1])).length) Slot.unset).toArray = ls at hl ⊢
  have hl : lv_has ls 4 [(0, .ref h0), (1, .int p1)] := hl
  refine lv_iconst (v := 0) hx hb dX12_weightRead_0 (by decide) ?_
  refine lv_istore_n (lv' := [(2, .int 0), (0, .ref h0), (1, .int p1)]) hx hb dX12_weightRead_1 rfl hl (by decide) rfl (fun ls hl => ?_)
  refine lv_iconst (v := 0) hx hb dX12_weightRead_2 (by decide) ?_
  refine lv_istore_n (lv' := [(3, .int 0), (2, .int 0), (0, .ref h0), (1, .int p1)]) hx hb dX12_weightRead_3 rfl hl (by decide) rfl (fun ls hl => ?_)
  refine w_loop (α := Int32 × Int32 × Sg × Lg) (fun (i_1, i_2, σ_3, ρ_4) H locs ls => 0 ≤ i_2.toInt ∧ i_2.toInt ≤ 5 ∧ TS D cA L T r ry ([] : List (Nat × Nat)) σ σ_3 ρ_4 H ∧ va_S (dm L s.heap.size) s.heap H locs ∧ lv_has ls 4 [(3, .int i_2), (2, .int i_1), (0, .ref h0), (1, .int p1)]) (fun (i_1, i_2, σ_3, ρ_4) => (5 - i_2.toInt).toNat) ?_ ⟨0, 0, σ, ρ⟩ ⟨(by decide), (by decide), hB, hS, lv_sub hl [0, 1, 2, 3] rfl⟩
  rintro ⟨i_1, i_2, σ_3, ρ_4⟩ H locs ls ⟨li_2, ui_2, hB, hS, hl⟩ ih_5
  refine lv_iload_n hx hb dX12_weightRead_4 rfl (lv_at hl 0 rfl) ?_
  refine lv_aload_n hx hb dX12_weightRead_5 rfl (lv_at hl 2 rfl) ?_
  refine t_gk hx hb hts hown hK hB mh0 th0 fq_12_7 hbd mw_5_223 dX12_weightRead_6 ?_
  refine lv_iconst (v := 1) hx hb dX12_weightRead_9 (by decide) ?_
  refine t_aj hx hb hK hB mbd tbd ai_66 (i_in (by decide) (by decide)) dX12_weightRead_10 (fun x_6 ex_6 lx_6 ux_6 => ?_)
  have lx_6 : 0 ≤ x_6.toInt := lx_6
  have ux_6 : x_6.toInt ≤ 5 := ux_6
  have cx_6 := congrArg Int32.toInt ex_6
  refine lv_icmp_ge (tgt := 51) hx hb dX12_weightRead_11 (by decide) (fun c_7 => ?_) (fun c_7 => ?_)
  · skip
    have uc_7 := j_le c_7
    refine lv_iload_n hx hb dX12_weightRead_51 rfl (lv_at hl 1 rfl) ?_
    exact W.iret (v := i_1) hx hb hr (fun t ht hW => ⟨⟨i_1, (σ_3, ρ_4), rfl, ⟨hB.2.1, hB.2.2, trivial⟩, (show TP D cA L T r σ_3 ρ_4 t.heap from by rw [ht]; exact hB.1)⟩, hS.F ht⟩) hS.2.2 dX12_weightRead_52
  · skip
    have uc_7 := j_nle c_7
    refine lv_iload_n hx hb dX12_weightRead_14 rfl (lv_at hl 1 rfl) ?_
    refine lv_aload_n hx hb dX12_weightRead_15 rfl (lv_at hl 2 rfl) ?_
    refine t_gk hx hb hts hown hK hB mh0 th0 fq_12_7 hbd mw_5_223 dX12_weightRead_16 ?_
    refine lv_bipush (v := 58) hx hb dX12_weightRead_19 (by decide) ?_
    refine lv_bipush (v := 9) hx hb dX12_weightRead_21 (by decide) ?_
    refine lv_iload_n hx hb dX12_weightRead_23 rfl (lv_at hl 3 rfl) ?_
    refine lv_imul hx hb dX12_weightRead_24 ?_
    refine lv_topi (fun x_8 ex_8 => ?_)
    have vx_8 := b_mul (by decide : (9 : Int32).toInt = 9) (rfl : p1.toInt = _) ex_8 (by omega) (by omega)
    refine lv_iadd hx hb dX12_weightRead_25 ?_
    refine lv_topi (fun x_9 ex_9 => ?_)
    have vx_9 := b_add (by decide : (58 : Int32).toInt = 58) (rfl : x_8.toInt = _) ex_9 (by omega) (by omega)
    refine lv_iconst (v := 4) hx hb dX12_weightRead_26 (by decide) ?_
    refine lv_iadd hx hb dX12_weightRead_27 ?_
    refine lv_topi (fun x_10 ex_10 => ?_)
    have vx_10 := b_add (rfl : x_9.toInt = _) (by decide : (4 : Int32).toInt = 4) ex_10 (by omega) (by omega)
    refine lv_iload_n hx hb dX12_weightRead_28 rfl (lv_at hl 0 rfl) ?_
    refine lv_iadd hx hb dX12_weightRead_29 ?_
    refine lv_topi (fun x_11 ex_11 => ?_)
    have vx_11 := b_add (rfl : x_10.toInt = _) (rfl : i_2.toInt = _) ex_11 (by omega) (by omega)
    refine t_aj hx hb hK hB mbd tbd ai_66 (i_in (by omega) (by omega)) dX12_weightRead_30 (fun x_12 ex_12 lx_12 ux_12 => ?_)
    clear lx_12 ux_12
    have cx_12 := congrArg Int32.toInt ex_12
    refine lv_aload_n hx hb dX12_weightRead_31 rfl (lv_at hl 2 rfl) ?_
    refine t_gk hx hb hts hown hK hB mh0 th0 fq_12_7 hbd mw_5_223 dX12_weightRead_32 ?_
    refine lv_bipush (v := 94) hx hb dX12_weightRead_35 (by decide) ?_
    refine lv_iconst (v := 3) hx hb dX12_weightRead_37 (by decide) ?_
    refine lv_iload_n hx hb dX12_weightRead_38 rfl (lv_at hl 0 rfl) ?_
    refine lv_imul hx hb dX12_weightRead_39 ?_
    refine lv_topi (fun x_13 ex_13 => ?_)
    have vx_13 := b_mul (by decide : (3 : Int32).toInt = 3) (rfl : i_2.toInt = _) ex_13 (by omega) (by omega)
    refine lv_iadd hx hb dX12_weightRead_40 ?_
    refine lv_topi (fun x_14 ex_14 => ?_)
    have vx_14 := b_add (by decide : (94 : Int32).toInt = 94) (rfl : x_13.toInt = _) ex_14 (by omega) (by omega)
    refine t_aj hx hb hK hB mbd tbd ai_66 (i_in (by omega) (by omega)) dX12_weightRead_41 (fun x_15 ex_15 lx_15 ux_15 => ?_)
    clear lx_15 ux_15
    have cx_15 := congrArg Int32.toInt ex_15
    refine lv_imul hx hb dX12_weightRead_42 ?_
    refine lv_topi (fun x_16 ex_16 => ?_)
    refine lv_iadd hx hb dX12_weightRead_43 ?_
    refine lv_topi (fun x_17 ex_17 => ?_)
    try have vx_17 := b_add (rfl : i_1.toInt = _) (rfl : x_16.toInt = _) ex_17 (by omega) (by omega)
    refine lv_istore_n (lv' := [(2, .int x_17), (3, .int i_2), (0, .ref h0), (1, .int p1)]) hx hb dX12_weightRead_44 rfl hl (by decide) rfl (fun ls hl => ?_)
    obtain ⟨x_18, ex_18⟩ : ∃ y : Int32, y = i_2 + 1 := ⟨_, rfl⟩
    have vx_18 := b_add (rfl : i_2.toInt = _) (by decide : (1 : Int32).toInt = 1) ex_18 (by omega) (by omega)
    refine lv_iinc (v := x_18) (lv' := [(3, .int x_18), (2, .int x_17), (0, .ref h0), (1, .int p1)]) hx hb dX12_weightRead_45 hl (k := 1) rfl (by rw [ex_18]; rfl) (by decide) rfl (fun ls hl => ?_)
    refine lv_goto (tgt := 4) hx hb dX12_weightRead_48 (by decide) ?_
    exact ih_5 ⟨x_17, x_18, σ_3, ρ_4⟩ _ _ _ ⟨(by omega), (by omega), hB, hS, lv_sub hl [0, 1, 2, 3] rfl⟩ (by show (5 - x_18.toInt).toNat < (5 - i_2.toInt).toNat; omega)
theorem mw_6_206 : (.instanceMethod yX12_weightRead : Cond) ∈ wsA := wsA_t (List.mem_append_right _ (List.mem_append_right _ (List.mem_append_right _ (List.mem_append_right _ (List.mem_append_right _ (List.mem_append_left _ (List.mem_of_getElem? (l := tables_1_6) (i := 206) rfl))))))) rfl
theorem mp_4_12 : (.selects RX12 yX12_weightRead yX12_weightRead : Cond) ∈ wsA := wsA_p (q := (yX12_weightRead, 44)) (List.mem_append_right _ (List.mem_append_right _ (List.mem_append_right _ (List.mem_append_left _ (List.mem_of_getElem? (l := lw_privs_4) (i := 12) rfl)))))
theorem mw_6_207 : (.code yX12_weightRead cX12_weightRead 4 (some .int) : Cond) ∈ wsA := wsA_t (List.mem_append_right _ (List.mem_append_right _ (List.mem_append_right _ (List.mem_append_right _ (List.mem_append_right _ (List.mem_append_left _ (List.mem_of_getElem? (l := tables_1_6) (i := 207) rfl))))))) rfl
theorem mw_6_204 : (.methodLink RX12 230 yX12_weightRead : Cond) ∈ wsA := wsA_t (List.mem_append_right _ (List.mem_append_right _ (List.mem_append_right _ (List.mem_append_right _ (List.mem_append_right _ (List.mem_append_left _ (List.mem_of_getElem? (l := tables_1_6) (i := 204) rfl))))))) rfl
theorem dX12_areThingsHere_0 : decode cX12_areThingsHere 0 = .ok (.aload_n 0, 1) := by decide +kernel
theorem dX12_areThingsHere_1 : decode cX12_areThingsHere 1 = .ok (.invokevirtual 117, 3) := by decide +kernel
theorem dX12_areThingsHere_4 : decode cX12_areThingsHere 4 = .ok (.aload_n 0, 1) := by decide +kernel
theorem dX12_areThingsHere_5 : decode cX12_areThingsHere 5 = .ok (.iconst 0, 1) := by decide +kernel
theorem dX12_areThingsHere_6 : decode cX12_areThingsHere 6 = .ok (.aload_n 0, 1) := by decide +kernel
theorem dX12_areThingsHere_7 : decode cX12_areThingsHere 7 = .ok (.getfield 26, 3) := by decide +kernel
theorem dX12_areThingsHere_10 : decode cX12_areThingsHere 10 = .ok (.iconst 3, 1) := by decide +kernel
theorem dX12_areThingsHere_11 : decode cX12_areThingsHere 11 = .ok (.iaload, 1) := by decide +kernel
theorem dX12_areThingsHere_12 : decode cX12_areThingsHere 12 = .ok (.iconst 1, 1) := by decide +kernel
theorem dX12_areThingsHere_13 : decode cX12_areThingsHere 13 = .ok (.isub, 1) := by decide +kernel
theorem dX12_areThingsHere_14 : decode cX12_areThingsHere 14 = .ok (.invokevirtual 175, 3) := by decide +kernel
theorem dX12_areThingsHere_17 : decode cX12_areThingsHere 17 = .ok (.ifCond .ne 5, 3) := by decide +kernel
theorem dX12_areThingsHere_22 : decode cX12_areThingsHere 22 = .ok (.aload_n 0, 1) := by decide +kernel
theorem dX12_areThingsHere_23 : decode cX12_areThingsHere 23 = .ok (.getfield 127, 3) := by decide +kernel
theorem dX12_areThingsHere_26 : decode cX12_areThingsHere 26 = .ok (.istore_n 1, 1) := by decide +kernel
theorem dX12_areThingsHere_27 : decode cX12_areThingsHere 27 = .ok (.aload_n 0, 1) := by decide +kernel
theorem dX12_areThingsHere_28 : decode cX12_areThingsHere 28 = .ok (.iconst 0, 1) := by decide +kernel
theorem dX12_areThingsHere_29 : decode cX12_areThingsHere 29 = .ok (.aload_n 0, 1) := by decide +kernel
theorem dX12_areThingsHere_30 : decode cX12_areThingsHere 30 = .ok (.getfield 26, 3) := by decide +kernel
theorem dX12_areThingsHere_33 : decode cX12_areThingsHere 33 = .ok (.iconst 1, 1) := by decide +kernel
theorem dX12_areThingsHere_34 : decode cX12_areThingsHere 34 = .ok (.iaload, 1) := by decide +kernel
theorem dX12_areThingsHere_35 : decode cX12_areThingsHere 35 = .ok (.iconst 1, 1) := by decide +kernel
theorem dX12_areThingsHere_36 : decode cX12_areThingsHere 36 = .ok (.isub, 1) := by decide +kernel
theorem dX12_areThingsHere_37 : decode cX12_areThingsHere 37 = .ok (.invokevirtual 175, 3) := by decide +kernel
theorem dX12_areThingsHere_40 : decode cX12_areThingsHere 40 = .ok (.ifCond .ne 5, 3) := by decide +kernel
theorem dX12_areThingsHere_45 : decode cX12_areThingsHere 45 = .ok (.aload_n 0, 1) := by decide +kernel
theorem dX12_areThingsHere_46 : decode cX12_areThingsHere 46 = .ok (.getfield 127, 3) := by decide +kernel
theorem dX12_areThingsHere_49 : decode cX12_areThingsHere 49 = .ok (.istore_n 2, 1) := by decide +kernel
theorem dX12_areThingsHere_50 : decode cX12_areThingsHere 50 = .ok (.aload_n 0, 1) := by decide +kernel
theorem dX12_areThingsHere_51 : decode cX12_areThingsHere 51 = .ok (.invokevirtual 105, 3) := by decide +kernel
theorem dX12_areThingsHere_54 : decode cX12_areThingsHere 54 = .ok (.pop, 1) := by decide +kernel
theorem dX12_areThingsHere_55 : decode cX12_areThingsHere 55 = .ok (.aload_n 0, 1) := by decide +kernel
theorem dX12_areThingsHere_56 : decode cX12_areThingsHere 56 = .ok (.getfield 102, 3) := by decide +kernel
theorem dX12_areThingsHere_59 : decode cX12_areThingsHere 59 = .ok (.istore_n 3, 1) := by decide +kernel
theorem dX12_areThingsHere_60 : decode cX12_areThingsHere 60 = .ok (.aload_n 0, 1) := by decide +kernel
theorem dX12_areThingsHere_61 : decode cX12_areThingsHere 61 = .ok (.iconst 1, 1) := by decide +kernel
theorem dX12_areThingsHere_62 : decode cX12_areThingsHere 62 = .ok (.iconst 4, 1) := by decide +kernel
theorem dX12_areThingsHere_63 : decode cX12_areThingsHere 63 = .ok (.invokevirtual 175, 3) := by decide +kernel
theorem dX12_areThingsHere_66 : decode cX12_areThingsHere 66 = .ok (.ifCond .ne 5, 3) := by decide +kernel
theorem dX12_areThingsHere_71 : decode cX12_areThingsHere 71 = .ok (.bipush 58, 2) := by decide +kernel
theorem dX12_areThingsHere_73 : decode cX12_areThingsHere 73 = .ok (.bipush 9, 2) := by decide +kernel
theorem dX12_areThingsHere_75 : decode cX12_areThingsHere 75 = .ok (.iload_n 1, 1) := by decide +kernel
theorem dX12_areThingsHere_76 : decode cX12_areThingsHere 76 = .ok (.imul, 1) := by decide +kernel
theorem dX12_areThingsHere_77 : decode cX12_areThingsHere 77 = .ok (.iadd, 1) := by decide +kernel
theorem dX12_areThingsHere_78 : decode cX12_areThingsHere 78 = .ok (.iconst 4, 1) := by decide +kernel
theorem dX12_areThingsHere_79 : decode cX12_areThingsHere 79 = .ok (.iadd, 1) := by decide +kernel
theorem dX12_areThingsHere_80 : decode cX12_areThingsHere 80 = .ok (.iload_n 2, 1) := by decide +kernel
theorem dX12_areThingsHere_81 : decode cX12_areThingsHere 81 = .ok (.iadd, 1) := by decide +kernel
theorem dX12_areThingsHere_82 : decode cX12_areThingsHere 82 = .ok (.istore 4, 2) := by decide +kernel
theorem dX12_areThingsHere_84 : decode cX12_areThingsHere 84 = .ok (.aload_n 0, 1) := by decide +kernel
theorem dX12_areThingsHere_85 : decode cX12_areThingsHere 85 = .ok (.getfield 26, 3) := by decide +kernel
theorem dX12_areThingsHere_88 : decode cX12_areThingsHere 88 = .ok (.iload 4, 2) := by decide +kernel
theorem dX12_areThingsHere_90 : decode cX12_areThingsHere 90 = .ok (.iaload, 1) := by decide +kernel
theorem dX12_areThingsHere_91 : decode cX12_areThingsHere 91 = .ok (.aload_n 0, 1) := by decide +kernel
theorem dX12_areThingsHere_92 : decode cX12_areThingsHere 92 = .ok (.getfield 127, 3) := by decide +kernel
theorem dX12_areThingsHere_95 : decode cX12_areThingsHere 95 = .ok (.iadd, 1) := by decide +kernel
theorem dX12_areThingsHere_96 : decode cX12_areThingsHere 96 = .ok (.bipush 9, 2) := by decide +kernel
theorem dX12_areThingsHere_98 : decode cX12_areThingsHere 98 = .ok (.if_icmp .gt 34, 3) := by decide +kernel
theorem dX12_areThingsHere_132 : decode cX12_areThingsHere 132 = .ok (.aload_n 0, 1) := by decide +kernel
theorem dX12_areThingsHere_133 : decode cX12_areThingsHere 133 = .ok (.iconst 1, 1) := by decide +kernel
theorem dX12_areThingsHere_134 : decode cX12_areThingsHere 134 = .ok (.iload_n 3, 1) := by decide +kernel
theorem dX12_areThingsHere_135 : decode cX12_areThingsHere 135 = .ok (.invokevirtual 123, 3) := by decide +kernel
theorem dX12_areThingsHere_138 : decode cX12_areThingsHere 138 = .ok (.ireturn, 1) := by decide +kernel
theorem dX12_areThingsHere_101 : decode cX12_areThingsHere 101 = .ok (.aload_n 0, 1) := by decide +kernel
theorem dX12_areThingsHere_102 : decode cX12_areThingsHere 102 = .ok (.iload_n 1, 1) := by decide +kernel
theorem dX12_areThingsHere_103 : decode cX12_areThingsHere 103 = .ok (.invokevirtual 230, 3) := by decide +kernel
theorem dX12_areThingsHere_106 : decode cX12_areThingsHere 106 = .ok (.aload_n 0, 1) := by decide +kernel
theorem dX12_areThingsHere_107 : decode cX12_areThingsHere 107 = .ok (.getfield 127, 3) := by decide +kernel
theorem dX12_areThingsHere_110 : decode cX12_areThingsHere 110 = .ok (.aload_n 0, 1) := by decide +kernel
theorem dX12_areThingsHere_111 : decode cX12_areThingsHere 111 = .ok (.getfield 26, 3) := by decide +kernel
theorem dX12_areThingsHere_114 : decode cX12_areThingsHere 114 = .ok (.bipush 94, 2) := by decide +kernel
theorem dX12_areThingsHere_116 : decode cX12_areThingsHere 116 = .ok (.iconst 3, 1) := by decide +kernel
theorem dX12_areThingsHere_117 : decode cX12_areThingsHere 117 = .ok (.iload_n 2, 1) := by decide +kernel
theorem dX12_areThingsHere_118 : decode cX12_areThingsHere 118 = .ok (.imul, 1) := by decide +kernel
theorem dX12_areThingsHere_119 : decode cX12_areThingsHere 119 = .ok (.iadd, 1) := by decide +kernel
theorem dX12_areThingsHere_120 : decode cX12_areThingsHere 120 = .ok (.iaload, 1) := by decide +kernel
theorem dX12_areThingsHere_121 : decode cX12_areThingsHere 121 = .ok (.imul, 1) := by decide +kernel
theorem dX12_areThingsHere_122 : decode cX12_areThingsHere 122 = .ok (.iadd, 1) := by decide +kernel
theorem dX12_areThingsHere_123 : decode cX12_areThingsHere 123 = .ok (.aload_n 0, 1) := by decide +kernel
theorem dX12_areThingsHere_124 : decode cX12_areThingsHere 124 = .ok (.getfield 26, 3) := by decide +kernel
theorem dX12_areThingsHere_127 : decode cX12_areThingsHere 127 = .ok (.iconst 0, 1) := by decide +kernel
theorem dX12_areThingsHere_128 : decode cX12_areThingsHere 128 = .ok (.iaload, 1) := by decide +kernel
theorem dX12_areThingsHere_129 : decode cX12_areThingsHere 129 = .ok (.if_icmp .le 10, 3) := by decide +kernel
theorem dX12_areThingsHere_139 : decode cX12_areThingsHere 139 = .ok (.aload_n 0, 1) := by decide +kernel
theorem dX12_areThingsHere_140 : decode cX12_areThingsHere 140 = .ok (.getfield 26, 3) := by decide +kernel
theorem dX12_areThingsHere_143 : decode cX12_areThingsHere 143 = .ok (.iload 4, 2) := by decide +kernel
theorem dX12_areThingsHere_145 : decode cX12_areThingsHere 145 = .ok (.dup2, 1) := by decide +kernel
theorem dX12_areThingsHere_146 : decode cX12_areThingsHere 146 = .ok (.iaload, 1) := by decide +kernel
theorem dX12_areThingsHere_147 : decode cX12_areThingsHere 147 = .ok (.aload_n 0, 1) := by decide +kernel
theorem dX12_areThingsHere_148 : decode cX12_areThingsHere 148 = .ok (.getfield 127, 3) := by decide +kernel
theorem dX12_areThingsHere_151 : decode cX12_areThingsHere 151 = .ok (.iadd, 1) := by decide +kernel
theorem dX12_areThingsHere_152 : decode cX12_areThingsHere 152 = .ok (.iastore, 1) := by decide +kernel
theorem dX12_areThingsHere_153 : decode cX12_areThingsHere 153 = .ok (.iconst 1, 1) := by decide +kernel
theorem dX12_areThingsHere_154 : decode cX12_areThingsHere 154 = .ok (.ireturn, 1) := by decide +kernel
theorem dX12_areThingsHere_69 : decode cX12_areThingsHere 69 = .ok (.iconst 0, 1) := by decide +kernel
theorem dX12_areThingsHere_70 : decode cX12_areThingsHere 70 = .ok (.ireturn, 1) := by decide +kernel
theorem dX12_areThingsHere_43 : decode cX12_areThingsHere 43 = .ok (.iconst 0, 1) := by decide +kernel
theorem dX12_areThingsHere_44 : decode cX12_areThingsHere 44 = .ok (.ireturn, 1) := by decide +kernel
theorem dX12_areThingsHere_20 : decode cX12_areThingsHere 20 = .ok (.iconst 0, 1) := by decide +kernel
theorem dX12_areThingsHere_21 : decode cX12_areThingsHere 21 = .ok (.ireturn, 1) := by decide +kernel
theorem mv_X12_weightRead : MV RX12 yX12_weightRead cX12_weightRead 4 (some .int) 1 := ⟨mw_6_206, mp_4_12, mw_1_13, mw_6_207, ⟨rfl, by decide, by decide, by decide +kernel⟩⟩
set_option maxHeartbeats 4000000 in
set_option maxRecDepth 100000 in
theorem cz_X12_areThingsHere (l : Launch) (D : va_G) (cA : Nat → ClassId) (L : List Nat) (T : Nat → Nat) (r : Rg) (hG : GR L T r) (hL : L.Nodup) (σ : Sg) (ρ : Lg) (hW : WT L ry T σ) (sz : Nat) (h0 : Nat) (mh0 : h0 ∈ L) (th0 : T h0 = 12) (bt : Nat) (hbt : r h0 0 = some bt) (mbt : bt ∈ L) (tbt : T bt = 61) (bd : Nat) (hbd : r h0 7 = some bd) (mbd : bd ∈ L) (tbd : T bd = 66) : Met l yX12_areThingsHere (.code yX12_areThingsHere cX12_areThingsHere 5 (some .boolean) :: wsA) ({ frames := 2, cells := 0, slots := 0, locals := 49 }) (PR D cA L T r σ ρ sz [.ref h0]) (QI D cA L T r ry [(12, 8), (12, 9), (12, 10), (66, 1000)] σ sz (fun x σ1 => (0 ≤ x.toInt ∧ x.toInt ≤ 1) ∧ ((σ h0 8).toInt ≤ (σ1 h0 8).toInt))) 0 0 (dm L sz) := by
  refine Met.ofW (cc := cX12_areThingsHere) (maxL := 5) (ret := (some .boolean)) (by decide) rfl ?_
  intro p e s m args below meth c s₁ B hml hv
  obtain ⟨rfl, hsz, hP, hK, hN⟩ := hv
  have hx := B.exec
  have hb := B.bytes
  have hr := B.returns
  have hts : ∀ w ∈ wsA, w.before _ s = true := fun w h => atoms_spec (ws := .code yX12_areThingsHere cX12_areThingsHere 5 (some .boolean) :: wsA) B.pre w (List.mem_cons_of_mem _ h)
  have hown : s.vm.findClass RX12 = some m.cls := findClass_of_methodNamed B.named
  subst hsz
  have hLA : LA (dm L s.heap.size) L := ⟨hL, fun a h => Or.inl h⟩
  have hA : ∀ q : Nat, s.heap.size ≤ q → dm L s.heap.size q := fun q h => Or.inr h
  have hS : va_S (dm L s.heap.size) s.heap s.heap [] := va_S.rf
  have hB : TS D cA L T r ry [(12, 8), (12, 9), (12, 10), (66, 1000)] σ σ ρ s.heap := ⟨hP, hW, FR.rf⟩
  have hl := lv_entry ([.ref h0]) (n := 5) (Nat.le_of_ble_eq_true rfl)
  rw [lg_entry_eq]
  generalize (lg_sl ([.ref h0]) ++ List.replicate (5 - (lg_sl ([.ref h0])).length) Slot.unset).toArray = ls at hl ⊢
  have hl : lv_has ls 5 [(0, .ref h0)] := hl
  have w_1 : 0 ≤ (σ h0 8).toInt ∧ (σ h0 8).toInt ≤ 400 := by have z := hB.2.1 h0 mh0 8; rw [th0] at z; exact z
  have w_2 : 0 ≤ (σ h0 1).toInt ∧ (σ h0 1).toInt ≤ 400 := by have z := hB.2.1 h0 mh0 1; rw [th0] at z; exact z
  have z0 : (0 : Int32).toInt = 0 := by decide
  have z1 : (1 : Int32).toInt = 1 := by decide
  have z4 : (4 : Int32).toInt = 4 := by decide
  have w_3 : 0 ≤ (σ bd 1).toInt ∧ (σ bd 1).toInt ≤ 5 := by have z := hB.2.1 bd mbd 1; rw [tbd] at z; exact z
  have w_4 : 0 ≤ (σ bd 2).toInt ∧ (σ bd 2).toInt ≤ 8 := by have z := hB.2.1 bd mbd 2; rw [tbd] at z; exact z
  have w_5 : 0 ≤ (σ bd 3).toInt ∧ (σ bd 3).toInt ≤ 4 := by have z := hB.2.1 bd mbd 3; rw [tbd] at z; exact z
  refine lv_aload_n hx hb dX12_areThingsHere_0 rfl (lv_at hl 0 rfl) ?_
  refine t_cv (va_runV (As := []) (rest := []) ⟨hx, hb, hml, hown, hts⟩ (cz_X12_passWord l D cA L T r hG hLA.1 σ ρ hB.2.1 _ h0 mh0 th0 bt hbt mbt tbt) (cV hts mv_X12_passWord mw_6_169 rfl rfl ⟨Nat.le_of_ble_eq_true rfl, Nat.le_of_ble_eq_true rfl⟩) (pV hB.1 hK hN mh0 th0 (show shp cA 12 _ _ _ = .inr (12, Fs12 _ _ _) from rfl) rfl) rfl rfl hl.1 rfl (lv_room (Nat.le_of_ble_eq_true rfl)) dX12_areThingsHere_1 ⟨Nat.le_of_ble_eq_true rfl, Nat.le_of_ble_eq_true rfl⟩) hLA hA hB hS (by decide) (fun σ_6 ρ_7 H locs hB fσ_6 pσ_6 hS => ?_)
  obtain ⟨g_9, g_10⟩ := pσ_6
  have w_11 : 0 ≤ (σ_6 h0 8).toInt ∧ (σ_6 h0 8).toInt ≤ 400 := by have z := hB.2.1 h0 mh0 8; rw [th0] at z; exact z
  have k_12 : σ_6 h0 1 = (σ h0 1) := (FR.at fσ_6 th0 (by decide)).trans rfl
  have cq_13 : (σ_6 h0 1).toInt = (σ h0 1).toInt := congrArg Int32.toInt k_12
  refine lv_aload_n hx hb dX12_areThingsHere_4 rfl (lv_at hl 0 rfl) ?_
  refine lv_iconst (v := 0) hx hb dX12_areThingsHere_5 (by decide) ?_
  refine lv_aload_n hx hb dX12_areThingsHere_6 rfl (lv_at hl 0 rfl) ?_
  refine t_gk hx hb hts hown hK hB mh0 th0 fq_12_7 hbd mw_5_223 dX12_areThingsHere_7 ?_
  refine lv_iconst (v := 3) hx hb dX12_areThingsHere_10 (by decide) ?_
  have k_14 : σ_6 bd 3 = (σ bd 3) := (FR.at fσ_6 tbd (by decide)).trans rfl
  refine t_aj hx hb hK hB mbd tbd ai_66 (i_in (by decide) (by decide)) dX12_areThingsHere_11 (fun x_15 ex_15 lx_15 ux_15 => ?_)
  have qx_15 : x_15 = (σ bd 3) := ex_15.trans k_14
  have qx_15 := qx_15.symm
  subst qx_15
  refine lv_iconst (v := 1) hx hb dX12_areThingsHere_12 (by decide) ?_
  refine lv_isub hx hb dX12_areThingsHere_13 ?_
  refine lv_topi (fun x_16 ex_16 => ?_)
  have vx_16 := b_sub (rfl : (σ bd 3).toInt = _) (by decide : (1 : Int32).toInt = 1) ex_16 (by omega) (by omega)
  refine t_ci (va_runV (As := [.int 0, .int x_16]) (rest := []) ⟨hx, hb, hml, hown, hts⟩ (cz_X12_numberHere l D cA L T r hG hLA.1 σ_6 ρ_7 hB.2.1 _ h0 mh0 th0 0 x_16 bt hbt mbt tbt) (cV hts mv_X12_numberHere mw_6_177 rfl rfl ⟨Nat.le_of_ble_eq_true rfl, Nat.le_of_ble_eq_true rfl⟩) (pV hB.1 hK hN mh0 th0 (show shp cA 12 _ _ _ = .inr (12, Fs12 _ _ _) from rfl) rfl) rfl rfl hl.1 rfl (lv_room (Nat.le_of_ble_eq_true rfl)) dX12_areThingsHere_14 ⟨Nat.le_of_ble_eq_true rfl, Nat.le_of_ble_eq_true rfl⟩) hLA hA hB hS (by decide) (fun x_19 σ_17 ρ_18 H locs hB fσ_17 pσ_17 hS => ?_)
  obtain ⟨g_20, g_21, g_22, g_23⟩ := pσ_17
  have w_24 : 0 ≤ (σ_17 h0 8).toInt ∧ (σ_17 h0 8).toInt ≤ 400 := by have z := hB.2.1 h0 mh0 8; rw [th0] at z; exact z
  have w_25 : (-2147483648) ≤ (σ_17 h0 10).toInt ∧ (σ_17 h0 10).toInt ≤ 2147483647 := by have z := hB.2.1 h0 mh0 10; rw [th0] at z; exact z
  obtain ⟨lx_19, ux_19⟩ := g_20
  have k_26 : σ_17 h0 1 = (σ h0 1) := (FR.at fσ_17 th0 (by decide)).trans k_12
  have cq_27 : (σ_17 h0 1).toInt = (σ h0 1).toInt := congrArg Int32.toInt k_26
  refine lv_if_ne (tgt := 22) hx hb dX12_areThingsHere_17 (by decide) (fun c_28 => ?_) (fun c_28 => ?_)
  · skip
    have uc_28 := i_ne (n := 0) (by decide) c_28
    refine lv_aload_n hx hb dX12_areThingsHere_22 rfl (lv_at hl 0 rfl) ?_
    refine t_gv hx hb hts hown hK hB mh0 th0 fi_12_10 rfl mw_5_226 dX12_areThingsHere_23 ?_
    have nr_29 : 0 ≤ (σ_17 h0 10).toInt ∧ (σ_17 h0 10).toInt ≤ 3 := by omega
    refine lv_istore_n (lv' := [(1, .int (σ_17 h0 10)), (0, .ref h0)]) hx hb dX12_areThingsHere_26 rfl hl (by decide) rfl (fun ls hl => ?_)
    refine lv_aload_n hx hb dX12_areThingsHere_27 rfl (lv_at hl 1 rfl) ?_
    refine lv_iconst (v := 0) hx hb dX12_areThingsHere_28 (by decide) ?_
    refine lv_aload_n hx hb dX12_areThingsHere_29 rfl (lv_at hl 1 rfl) ?_
    refine t_gk hx hb hts hown hK hB mh0 th0 fq_12_7 hbd mw_5_223 dX12_areThingsHere_30 ?_
    refine lv_iconst (v := 1) hx hb dX12_areThingsHere_33 (by decide) ?_
    have k_30 : σ_6 bd 1 = (σ bd 1) := (FR.at fσ_6 tbd (by decide)).trans rfl
    have k_31 : σ_17 bd 1 = (σ bd 1) := (FR.at fσ_17 tbd (by decide)).trans k_30
    refine t_aj hx hb hK hB mbd tbd ai_66 (i_in (by decide) (by decide)) dX12_areThingsHere_34 (fun x_32 ex_32 lx_32 ux_32 => ?_)
    have qx_32 : x_32 = (σ bd 1) := ex_32.trans k_31
    have qx_32 := qx_32.symm
    subst qx_32
    refine lv_iconst (v := 1) hx hb dX12_areThingsHere_35 (by decide) ?_
    refine lv_isub hx hb dX12_areThingsHere_36 ?_
    refine lv_topi (fun x_33 ex_33 => ?_)
    have vx_33 := b_sub (rfl : (σ bd 1).toInt = _) (by decide : (1 : Int32).toInt = 1) ex_33 (by omega) (by omega)
    refine t_ci (va_runV (As := [.int 0, .int x_33]) (rest := []) ⟨hx, hb, hml, hown, hts⟩ (cz_X12_numberHere l D cA L T r hG hLA.1 σ_17 ρ_18 hB.2.1 _ h0 mh0 th0 0 x_33 bt hbt mbt tbt) (cV hts mv_X12_numberHere mw_6_177 rfl rfl ⟨Nat.le_of_ble_eq_true rfl, Nat.le_of_ble_eq_true rfl⟩) (pV hB.1 hK hN mh0 th0 (show shp cA 12 _ _ _ = .inr (12, Fs12 _ _ _) from rfl) rfl) rfl rfl hl.1 rfl (lv_room (Nat.le_of_ble_eq_true rfl)) dX12_areThingsHere_37 ⟨Nat.le_of_ble_eq_true rfl, Nat.le_of_ble_eq_true rfl⟩) hLA hA hB hS (by decide) (fun x_36 σ_34 ρ_35 H locs hB fσ_34 pσ_34 hS => ?_)
    obtain ⟨g_37, g_38, g_39, g_40⟩ := pσ_34
    have w_41 : 0 ≤ (σ_34 h0 8).toInt ∧ (σ_34 h0 8).toInt ≤ 400 := by have z := hB.2.1 h0 mh0 8; rw [th0] at z; exact z
    have w_42 : (-2147483648) ≤ (σ_34 h0 10).toInt ∧ (σ_34 h0 10).toInt ≤ 2147483647 := by have z := hB.2.1 h0 mh0 10; rw [th0] at z; exact z
    obtain ⟨lx_36, ux_36⟩ := g_37
    have k_43 : σ_34 h0 1 = (σ h0 1) := (FR.at fσ_34 th0 (by decide)).trans k_26
    have cq_44 : (σ_34 h0 1).toInt = (σ h0 1).toInt := congrArg Int32.toInt k_43
    refine lv_if_ne (tgt := 45) hx hb dX12_areThingsHere_40 (by decide) (fun c_45 => ?_) (fun c_45 => ?_)
    · skip
      have uc_45 := i_ne (n := 0) (by decide) c_45
      refine lv_aload_n hx hb dX12_areThingsHere_45 rfl (lv_at hl 1 rfl) ?_
      refine t_gv hx hb hts hown hK hB mh0 th0 fi_12_10 rfl mw_5_226 dX12_areThingsHere_46 ?_
      have nr_46 : 0 ≤ (σ_34 h0 10).toInt ∧ (σ_34 h0 10).toInt ≤ 4 := by omega
      refine lv_istore_n (lv' := [(2, .int (σ_34 h0 10)), (1, .int (σ_17 h0 10)), (0, .ref h0)]) hx hb dX12_areThingsHere_49 rfl hl (by decide) rfl (fun ls hl => ?_)
      refine lv_aload_n hx hb dX12_areThingsHere_50 rfl (lv_at hl 2 rfl) ?_
      refine t_ci (va_runV (As := []) (rest := []) ⟨hx, hb, hml, hown, hts⟩ (cz_X12_see l D cA L T r hG hLA.1 σ_34 ρ_35 hB.2.1 _ h0 mh0 th0 bt hbt mbt tbt) (cV hts mv_X12_see mw_6_134 rfl rfl ⟨Nat.le_of_ble_eq_true rfl, Nat.le_of_ble_eq_true rfl⟩) (pV hB.1 hK hN mh0 th0 (show shp cA 12 _ _ _ = .inr (12, Fs12 _ _ _) from rfl) rfl) rfl rfl hl.1 rfl (lv_room (Nat.le_of_ble_eq_true rfl)) dX12_areThingsHere_51 ⟨Nat.le_of_ble_eq_true rfl, Nat.le_of_ble_eq_true rfl⟩) hLA hA hB hS (by decide) (fun x_49 σ_47 ρ_48 H locs hB fσ_47 pσ_47 hS => ?_)
      obtain ⟨g_50, g_51, g_52, g_53⟩ := pσ_47
      have w_54 : 0 ≤ (σ_47 h0 8).toInt ∧ (σ_47 h0 8).toInt ≤ 400 := by have z := hB.2.1 h0 mh0 8; rw [th0] at z; exact z
      obtain ⟨lx_49, ux_49⟩ := g_50
      have k_55 : σ_47 h0 1 = (σ h0 1) := (FR.at fσ_47 th0 (by decide)).trans k_43
      have cq_56 : (σ_47 h0 1).toInt = (σ h0 1).toInt := congrArg Int32.toInt k_55
      have k_57 : σ_47 h0 10 = (σ_34 h0 10) := (FR.at fσ_47 th0 (by decide)).trans rfl
      have cq_58 : (σ_47 h0 10).toInt = (σ_34 h0 10).toInt := congrArg Int32.toInt k_57
      refine lv_pop hx hb dX12_areThingsHere_54 rfl ?_
      refine lv_aload_n hx hb dX12_areThingsHere_55 rfl (lv_at hl 2 rfl) ?_
      refine t_gv hx hb hts hown hK hB mh0 th0 fi_12_8 rfl mw_5_224 dX12_areThingsHere_56 ?_
      refine lv_istore_n (lv' := [(3, .int (σ_47 h0 8)), (2, .int (σ_34 h0 10)), (1, .int (σ_17 h0 10)), (0, .ref h0)]) hx hb dX12_areThingsHere_59 rfl hl (by decide) rfl (fun ls hl => ?_)
      refine lv_aload_n hx hb dX12_areThingsHere_60 rfl (lv_at hl 3 rfl) ?_
      refine lv_iconst (v := 1) hx hb dX12_areThingsHere_61 (by decide) ?_
      refine lv_iconst (v := 4) hx hb dX12_areThingsHere_62 (by decide) ?_
      refine t_ci (va_runV (As := [.int 1, .int 4]) (rest := []) ⟨hx, hb, hml, hown, hts⟩ (cz_X12_numberHere l D cA L T r hG hLA.1 σ_47 ρ_48 hB.2.1 _ h0 mh0 th0 1 4 bt hbt mbt tbt) (cV hts mv_X12_numberHere mw_6_177 rfl rfl ⟨Nat.le_of_ble_eq_true rfl, Nat.le_of_ble_eq_true rfl⟩) (pV hB.1 hK hN mh0 th0 (show shp cA 12 _ _ _ = .inr (12, Fs12 _ _ _) from rfl) rfl) rfl rfl hl.1 rfl (lv_room (Nat.le_of_ble_eq_true rfl)) dX12_areThingsHere_63 ⟨Nat.le_of_ble_eq_true rfl, Nat.le_of_ble_eq_true rfl⟩) hLA hA hB hS (by decide) (fun x_61 σ_59 ρ_60 H locs hB fσ_59 pσ_59 hS => ?_)
      obtain ⟨g_62, g_63, g_64, g_65⟩ := pσ_59
      have w_66 : 0 ≤ (σ_59 h0 8).toInt ∧ (σ_59 h0 8).toInt ≤ 400 := by have z := hB.2.1 h0 mh0 8; rw [th0] at z; exact z
      have w_67 : (-2147483648) ≤ (σ_59 h0 10).toInt ∧ (σ_59 h0 10).toInt ≤ 2147483647 := by have z := hB.2.1 h0 mh0 10; rw [th0] at z; exact z
      obtain ⟨lx_61, ux_61⟩ := g_62
      have k_68 : σ_59 h0 1 = (σ h0 1) := (FR.at fσ_59 th0 (by decide)).trans k_55
      have cq_69 : (σ_59 h0 1).toInt = (σ h0 1).toInt := congrArg Int32.toInt k_68
      refine lv_if_ne (tgt := 71) hx hb dX12_areThingsHere_66 (by decide) (fun c_70 => ?_) (fun c_70 => ?_)
      · skip
        have uc_70 := i_ne (n := 0) (by decide) c_70
        refine lv_bipush (v := 58) hx hb dX12_areThingsHere_71 (by decide) ?_
        refine lv_bipush (v := 9) hx hb dX12_areThingsHere_73 (by decide) ?_
        refine lv_iload_n hx hb dX12_areThingsHere_75 rfl (lv_at hl 2 rfl) ?_
        refine lv_imul hx hb dX12_areThingsHere_76 ?_
        refine lv_topi (fun x_71 ex_71 => ?_)
        have vx_71 := b_mul (by decide : (9 : Int32).toInt = 9) (rfl : (σ_17 h0 10).toInt = _) ex_71 (by omega) (by omega)
        refine lv_iadd hx hb dX12_areThingsHere_77 ?_
        refine lv_topi (fun x_72 ex_72 => ?_)
        have vx_72 := b_add (by decide : (58 : Int32).toInt = 58) (rfl : x_71.toInt = _) ex_72 (by omega) (by omega)
        refine lv_iconst (v := 4) hx hb dX12_areThingsHere_78 (by decide) ?_
        refine lv_iadd hx hb dX12_areThingsHere_79 ?_
        refine lv_topi (fun x_73 ex_73 => ?_)
        have vx_73 := b_add (rfl : x_72.toInt = _) (by decide : (4 : Int32).toInt = 4) ex_73 (by omega) (by omega)
        refine lv_iload_n hx hb dX12_areThingsHere_80 rfl (lv_at hl 1 rfl) ?_
        refine lv_iadd hx hb dX12_areThingsHere_81 ?_
        refine lv_topi (fun x_74 ex_74 => ?_)
        have vx_74 := b_add (rfl : x_73.toInt = _) (rfl : (σ_34 h0 10).toInt = _) ex_74 (by omega) (by omega)
        refine lv_istore (lv' := [(4, .int x_74), (3, .int (σ_47 h0 8)), (2, .int (σ_34 h0 10)), (1, .int (σ_17 h0 10)), (0, .ref h0)]) hx hb dX12_areThingsHere_82 hl (by decide) rfl (fun ls hl => ?_)
        refine lv_aload_n hx hb dX12_areThingsHere_84 rfl (lv_at hl 4 rfl) ?_
        refine t_gk hx hb hts hown hK hB mh0 th0 fq_12_7 hbd mw_5_223 dX12_areThingsHere_85 ?_
        refine lv_iload hx hb dX12_areThingsHere_88 (lv_at hl 0 rfl) ?_
        refine t_aj hx hb hK hB mbd tbd ai_66 (i_in (by omega) (by omega)) dX12_areThingsHere_90 (fun x_75 ex_75 lx_75 ux_75 => ?_)
        clear lx_75 ux_75
        have cx_75 := congrArg Int32.toInt ex_75
        refine lv_aload_n hx hb dX12_areThingsHere_91 rfl (lv_at hl 4 rfl) ?_
        refine t_gv hx hb hts hown hK hB mh0 th0 fi_12_10 rfl mw_5_226 dX12_areThingsHere_92 ?_
        refine lv_iadd hx hb dX12_areThingsHere_95 ?_
        refine lv_topi (fun x_76 ex_76 => ?_)
        try have vx_76 := b_add (rfl : x_75.toInt = _) (rfl : (σ_59 h0 10).toInt = _) ex_76 (by omega) (by omega)
        refine lv_bipush (v := 9) hx hb dX12_areThingsHere_96 (by decide) ?_
        refine lv_icmp_gt (tgt := 132) hx hb dX12_areThingsHere_98 (by decide) (fun c_77 => ?_) (fun c_77 => ?_)
        · skip
          have uc_77 := i_gt (n := 9) (by decide) c_77
          refine lv_aload_n hx hb dX12_areThingsHere_132 rfl (lv_at hl 4 rfl) ?_
          refine lv_iconst (v := 1) hx hb dX12_areThingsHere_133 (by decide) ?_
          refine lv_iload_n hx hb dX12_areThingsHere_134 rfl (lv_at hl 1 rfl) ?_
          refine t_ci (va_runV (As := [.int 1, .int (σ_47 h0 8)]) (rest := []) ⟨hx, hb, hml, hown, hts⟩ (cy_X12_fails l D cA L T r hG hLA.1 σ_59 ρ_60 hB.2.1 _ h0 mh0 th0 1 ((σ_47 h0 8)) (by first | omega | decide) (by first | omega | decide) (by first | omega | decide) (by first | omega | decide)) (cV hts mv_X12_fails mw_6_157 rfl rfl ⟨Nat.le_of_ble_eq_true rfl, Nat.le_of_ble_eq_true rfl⟩) (pV hB.1 hK hN mh0 th0 (show shp cA 12 _ _ _ = .inr (12, Fs12 _ _ _) from rfl) rfl) rfl rfl hl.1 rfl (lv_room (Nat.le_of_ble_eq_true rfl)) dX12_areThingsHere_135 ⟨Nat.le_of_ble_eq_true rfl, Nat.le_of_ble_eq_true rfl⟩) hLA hA hB hS (by decide) (fun x_80 σ_78 ρ_79 H locs hB fσ_78 pσ_78 hS => ?_)
          subst pσ_78
          have k_81 : σ_78 h0 8 = (σ_59 h0 8) := (FR.at fσ_78 th0 (by decide)).trans rfl
          have cq_82 : (σ_78 h0 8).toInt = (σ_59 h0 8).toInt := congrArg Int32.toInt k_81
          have k_83 : σ_78 h0 1 = (σ h0 1) := (FR.at fσ_78 th0 (by decide)).trans k_68
          have cq_84 : (σ_78 h0 1).toInt = (σ h0 1).toInt := congrArg Int32.toInt k_83
          have k_85 : σ_78 h0 10 = (σ_59 h0 10) := (FR.at fσ_78 th0 (by decide)).trans rfl
          have cq_86 : (σ_78 h0 10).toInt = (σ_59 h0 10).toInt := congrArg Int32.toInt k_85
          exact W.zret (v := 0) hx hb hr rfl (fun t ht hW => ⟨⟨0, (σ_78, ρ_79), rfl, ⟨hB.2.1, hB.2.2, ⟨(show 0 ≤ (0 : Int32).toInt ∧ (0 : Int32).toInt ≤ 1 from ⟨by decide, by decide⟩), (show (σ h0 8).toInt ≤ (σ_78 h0 8).toInt from (by rw [k_81]; omega))⟩⟩, (show TP D cA L T r σ_78 ρ_79 t.heap from by rw [ht]; exact hB.1)⟩, hS.F ht⟩) hS.2.2 dX12_areThingsHere_138
        · skip
          have uc_77 := i_ngt (n := 9) (by decide) c_77
          refine lv_aload_n hx hb dX12_areThingsHere_101 rfl (lv_at hl 4 rfl) ?_
          refine lv_iload_n hx hb dX12_areThingsHere_102 rfl (lv_at hl 3 rfl) ?_
          refine t_ci (va_runV (As := [.int (σ_17 h0 10)]) (rest := []) ⟨hx, hb, hml, hown, hts⟩ (cz_X12_weightRead l D cA L T r hG hLA.1 σ_59 ρ_60 hB.2.1 _ h0 mh0 th0 ((σ_17 h0 10)) bd hbd mbd tbd (by first | omega | decide) (by first | omega | decide)) (cV hts mv_X12_weightRead mw_6_204 rfl rfl ⟨Nat.le_of_ble_eq_true rfl, Nat.le_of_ble_eq_true rfl⟩) (pV hB.1 hK hN mh0 th0 (show shp cA 12 _ _ _ = .inr (12, Fs12 _ _ _) from rfl) rfl) rfl rfl hl.1 rfl (lv_room (Nat.le_of_ble_eq_true rfl)) dX12_areThingsHere_103 ⟨Nat.le_of_ble_eq_true rfl, Nat.le_of_ble_eq_true rfl⟩) hLA hA hB hS (by decide) (fun x_89 σ_87 ρ_88 H locs hB fσ_87 pσ_87 hS => ?_)
          have qσ_87 := FR.nil fσ_87
          subst qσ_87
          refine lv_aload_n hx hb dX12_areThingsHere_106 rfl (lv_at hl 4 rfl) ?_
          refine t_gv hx hb hts hown hK hB mh0 th0 fi_12_10 rfl mw_5_226 dX12_areThingsHere_107 ?_
          refine lv_aload_n hx hb dX12_areThingsHere_110 rfl (lv_at hl 4 rfl) ?_
          refine t_gk hx hb hts hown hK hB mh0 th0 fq_12_7 hbd mw_5_223 dX12_areThingsHere_111 ?_
          refine lv_bipush (v := 94) hx hb dX12_areThingsHere_114 (by decide) ?_
          refine lv_iconst (v := 3) hx hb dX12_areThingsHere_116 (by decide) ?_
          refine lv_iload_n hx hb dX12_areThingsHere_117 rfl (lv_at hl 2 rfl) ?_
          refine lv_imul hx hb dX12_areThingsHere_118 ?_
          refine lv_topi (fun x_90 ex_90 => ?_)
          have vx_90 := b_mul (by decide : (3 : Int32).toInt = 3) (rfl : (σ_34 h0 10).toInt = _) ex_90 (by omega) (by omega)
          refine lv_iadd hx hb dX12_areThingsHere_119 ?_
          refine lv_topi (fun x_91 ex_91 => ?_)
          have vx_91 := b_add (by decide : (94 : Int32).toInt = 94) (rfl : x_90.toInt = _) ex_91 (by omega) (by omega)
          refine t_aj hx hb hK hB mbd tbd ai_66 (i_in (by omega) (by omega)) dX12_areThingsHere_120 (fun x_92 ex_92 lx_92 ux_92 => ?_)
          clear lx_92 ux_92
          have cx_92 := congrArg Int32.toInt ex_92
          refine lv_imul hx hb dX12_areThingsHere_121 ?_
          refine lv_topi (fun x_93 ex_93 => ?_)
          refine lv_iadd hx hb dX12_areThingsHere_122 ?_
          refine lv_topi (fun x_94 ex_94 => ?_)
          try have vx_94 := b_add (rfl : x_89.toInt = _) (rfl : x_93.toInt = _) ex_94 (by omega) (by omega)
          refine lv_aload_n hx hb dX12_areThingsHere_123 rfl (lv_at hl 4 rfl) ?_
          refine t_gk hx hb hts hown hK hB mh0 th0 fq_12_7 hbd mw_5_223 dX12_areThingsHere_124 ?_
          refine lv_iconst (v := 0) hx hb dX12_areThingsHere_127 (by decide) ?_
          refine t_aj hx hb hK hB mbd tbd ai_66 (i_in (by decide) (by decide)) dX12_areThingsHere_128 (fun x_95 ex_95 lx_95 ux_95 => ?_)
          have lx_95 : (-2147483648) ≤ x_95.toInt := lx_95
          have ux_95 : x_95.toInt ≤ 2147483647 := ux_95
          have cx_95 := congrArg Int32.toInt ex_95
          refine lv_icmp_le (tgt := 139) hx hb dX12_areThingsHere_129 (by decide) (fun c_96 => ?_) (fun c_96 => ?_)
          · skip
            have uc_96 := j_le c_96
            refine lv_aload_n hx hb dX12_areThingsHere_139 rfl (lv_at hl 4 rfl) ?_
            refine t_gk hx hb hts hown hK hB mh0 th0 fq_12_7 hbd mw_5_223 dX12_areThingsHere_140 ?_
            refine lv_iload hx hb dX12_areThingsHere_143 (lv_at hl 0 rfl) ?_
            refine lv_dup2_11 hx hb dX12_areThingsHere_145 rfl rfl ?_
            refine t_aj hx hb hK hB mbd tbd ai_66 (i_in (by omega) (by omega)) dX12_areThingsHere_146 (fun x_97 ex_97 lx_97 ux_97 => ?_)
            have qx_97 : x_97 = x_75 := ex_97.trans ex_75.symm
            have qx_97 := qx_97.symm
            subst qx_97
            refine lv_aload_n hx hb dX12_areThingsHere_147 rfl (lv_at hl 4 rfl) ?_
            refine t_gv hx hb hts hown hK hB mh0 th0 fi_12_10 rfl mw_5_226 dX12_areThingsHere_148 ?_
            refine lv_iadd hx hb dX12_areThingsHere_151 ?_
            refine lv_topi (fun x_98 ex_98 => ?_)
            try have vx_98 := b_add (rfl : x_75.toInt = _) (rfl : (σ_59 h0 10).toInt = _) ex_98 (by omega) (by omega)
            refine t_si hx hb hK hLA hB hS mbd tbd ai_66 (i_in (by omega) (by omega)) (by rw [show ry 66 x_74.toNatClampNeg = ((-2147483648), 2147483647) from sbF (by have hn : x_74.toNatClampNeg = x_74.toInt.toNat := rfl; omega)]; exact i_lo _) (by rw [show ry 66 x_74.toNatClampNeg = ((-2147483648), 2147483647) from sbF (by have hn : x_74.toNatClampNeg = x_74.toInt.toNat := rfl; omega)]; exact i_hi _) (Or.inr (by decide)) dX12_areThingsHere_152 (fun H locs σ_99 eσ_99 hB hS => ?_)
            have k_100 : σ_99 bd x_74.toNatClampNeg = x_98 := by rw [eσ_99]; exact up2_same _ _ _ _
            refine lv_iconst (v := 1) hx hb dX12_areThingsHere_153 (by decide) ?_
            have k_101 : σ_99 h0 8 = (σ_59 h0 8) := by rw [eσ_99, up2_nea _ _ (tg_ne th0 tbd (by decide))]
            exact W.zret (v := 1) hx hb hr rfl (fun t ht hW => ⟨⟨1, (σ_99, ρ_88), rfl, ⟨hB.2.1, hB.2.2, ⟨(show 0 ≤ (1 : Int32).toInt ∧ (1 : Int32).toInt ≤ 1 from ⟨by decide, by decide⟩), (show (σ h0 8).toInt ≤ (σ_99 h0 8).toInt from (by rw [k_101]; omega))⟩⟩, (show TP D cA L T r σ_99 ρ_88 t.heap from by rw [ht]; exact hB.1)⟩, hS.F ht⟩) hS.2.2 dX12_areThingsHere_154
          · skip
            have uc_96 := j_nle c_96
            refine lv_aload_n hx hb dX12_areThingsHere_132 rfl (lv_at hl 4 rfl) ?_
            refine lv_iconst (v := 1) hx hb dX12_areThingsHere_133 (by decide) ?_
            refine lv_iload_n hx hb dX12_areThingsHere_134 rfl (lv_at hl 1 rfl) ?_
            refine t_ci (va_runV (As := [.int 1, .int (σ_47 h0 8)]) (rest := []) ⟨hx, hb, hml, hown, hts⟩ (cy_X12_fails l D cA L T r hG hLA.1 σ_59 ρ_88 hB.2.1 _ h0 mh0 th0 1 ((σ_47 h0 8)) (by first | omega | decide) (by first | omega | decide) (by first | omega | decide) (by first | omega | decide)) (cV hts mv_X12_fails mw_6_157 rfl rfl ⟨Nat.le_of_ble_eq_true rfl, Nat.le_of_ble_eq_true rfl⟩) (pV hB.1 hK hN mh0 th0 (show shp cA 12 _ _ _ = .inr (12, Fs12 _ _ _) from rfl) rfl) rfl rfl hl.1 rfl (lv_room (Nat.le_of_ble_eq_true rfl)) dX12_areThingsHere_135 ⟨Nat.le_of_ble_eq_true rfl, Nat.le_of_ble_eq_true rfl⟩) hLA hA hB hS (by decide) (fun x_104 σ_102 ρ_103 H locs hB fσ_102 pσ_102 hS => ?_)
            subst pσ_102
            have k_105 : σ_102 h0 8 = (σ_59 h0 8) := (FR.at fσ_102 th0 (by decide)).trans rfl
            have cq_106 : (σ_102 h0 8).toInt = (σ_59 h0 8).toInt := congrArg Int32.toInt k_105
            have k_107 : σ_102 h0 1 = (σ h0 1) := (FR.at fσ_102 th0 (by decide)).trans k_68
            have cq_108 : (σ_102 h0 1).toInt = (σ h0 1).toInt := congrArg Int32.toInt k_107
            have k_109 : σ_102 h0 10 = (σ_59 h0 10) := (FR.at fσ_102 th0 (by decide)).trans rfl
            have cq_110 : (σ_102 h0 10).toInt = (σ_59 h0 10).toInt := congrArg Int32.toInt k_109
            exact W.zret (v := 0) hx hb hr rfl (fun t ht hW => ⟨⟨0, (σ_102, ρ_103), rfl, ⟨hB.2.1, hB.2.2, ⟨(show 0 ≤ (0 : Int32).toInt ∧ (0 : Int32).toInt ≤ 1 from ⟨by decide, by decide⟩), (show (σ h0 8).toInt ≤ (σ_102 h0 8).toInt from (by rw [k_105]; omega))⟩⟩, (show TP D cA L T r σ_102 ρ_103 t.heap from by rw [ht]; exact hB.1)⟩, hS.F ht⟩) hS.2.2 dX12_areThingsHere_138
      · skip
        have uc_70 := i_eq (n := 0) (by decide) c_70
        refine lv_iconst (v := 0) hx hb dX12_areThingsHere_69 (by decide) ?_
        exact W.zret (v := 0) hx hb hr rfl (fun t ht hW => ⟨⟨0, (σ_59, ρ_60), rfl, ⟨hB.2.1, hB.2.2, ⟨(show 0 ≤ (0 : Int32).toInt ∧ (0 : Int32).toInt ≤ 1 from ⟨by decide, by decide⟩), (show (σ h0 8).toInt ≤ (σ_59 h0 8).toInt from (by omega))⟩⟩, (show TP D cA L T r σ_59 ρ_60 t.heap from by rw [ht]; exact hB.1)⟩, hS.F ht⟩) hS.2.2 dX12_areThingsHere_70
    · skip
      have uc_45 := i_eq (n := 0) (by decide) c_45
      refine lv_iconst (v := 0) hx hb dX12_areThingsHere_43 (by decide) ?_
      exact W.zret (v := 0) hx hb hr rfl (fun t ht hW => ⟨⟨0, (σ_34, ρ_35), rfl, ⟨hB.2.1, hB.2.2, ⟨(show 0 ≤ (0 : Int32).toInt ∧ (0 : Int32).toInt ≤ 1 from ⟨by decide, by decide⟩), (show (σ h0 8).toInt ≤ (σ_34 h0 8).toInt from (by omega))⟩⟩, (show TP D cA L T r σ_34 ρ_35 t.heap from by rw [ht]; exact hB.1)⟩, hS.F ht⟩) hS.2.2 dX12_areThingsHere_44
  · skip
    have uc_28 := i_eq (n := 0) (by decide) c_28
    refine lv_iconst (v := 0) hx hb dX12_areThingsHere_20 (by decide) ?_
    exact W.zret (v := 0) hx hb hr rfl (fun t ht hW => ⟨⟨0, (σ_17, ρ_18), rfl, ⟨hB.2.1, hB.2.2, ⟨(show 0 ≤ (0 : Int32).toInt ∧ (0 : Int32).toInt ≤ 1 from ⟨by decide, by decide⟩), (show (σ h0 8).toInt ≤ (σ_17 h0 8).toInt from (by omega))⟩⟩, (show TP D cA L T r σ_17 ρ_18 t.heap from by rw [ht]; exact hB.1)⟩, hS.F ht⟩) hS.2.2 dX12_areThingsHere_21
theorem dX12_isHeapHere_0 : decode cX12_isHeapHere 0 = .ok (.aload_n 0, 1) := by decide +kernel
theorem dX12_isHeapHere_1 : decode cX12_isHeapHere 1 = .ok (.invokevirtual 117, 3) := by decide +kernel
theorem dX12_isHeapHere_4 : decode cX12_isHeapHere 4 = .ok (.aload_n 0, 1) := by decide +kernel
theorem dX12_isHeapHere_5 : decode cX12_isHeapHere 5 = .ok (.iconst 0, 1) := by decide +kernel
theorem dX12_isHeapHere_6 : decode cX12_isHeapHere 6 = .ok (.aload_n 0, 1) := by decide +kernel
theorem dX12_isHeapHere_7 : decode cX12_isHeapHere 7 = .ok (.getfield 26, 3) := by decide +kernel
theorem dX12_isHeapHere_10 : decode cX12_isHeapHere 10 = .ok (.iconst 2, 1) := by decide +kernel
theorem dX12_isHeapHere_11 : decode cX12_isHeapHere 11 = .ok (.iaload, 1) := by decide +kernel
theorem dX12_isHeapHere_12 : decode cX12_isHeapHere 12 = .ok (.iconst 1, 1) := by decide +kernel
theorem dX12_isHeapHere_13 : decode cX12_isHeapHere 13 = .ok (.isub, 1) := by decide +kernel
theorem dX12_isHeapHere_14 : decode cX12_isHeapHere 14 = .ok (.invokevirtual 175, 3) := by decide +kernel
theorem dX12_isHeapHere_17 : decode cX12_isHeapHere 17 = .ok (.ifCond .ne 5, 3) := by decide +kernel
theorem dX12_isHeapHere_22 : decode cX12_isHeapHere 22 = .ok (.bipush 125, 2) := by decide +kernel
theorem dX12_isHeapHere_24 : decode cX12_isHeapHere 24 = .ok (.iconst 5, 1) := by decide +kernel
theorem dX12_isHeapHere_25 : decode cX12_isHeapHere 25 = .ok (.aload_n 0, 1) := by decide +kernel
theorem dX12_isHeapHere_26 : decode cX12_isHeapHere 26 = .ok (.getfield 127, 3) := by decide +kernel
theorem dX12_isHeapHere_29 : decode cX12_isHeapHere 29 = .ok (.imul, 1) := by decide +kernel
theorem dX12_isHeapHere_30 : decode cX12_isHeapHere 30 = .ok (.iadd, 1) := by decide +kernel
theorem dX12_isHeapHere_31 : decode cX12_isHeapHere 31 = .ok (.istore_n 1, 1) := by decide +kernel
theorem dX12_isHeapHere_32 : decode cX12_isHeapHere 32 = .ok (.aload_n 0, 1) := by decide +kernel
theorem dX12_isHeapHere_33 : decode cX12_isHeapHere 33 = .ok (.iconst 0, 1) := by decide +kernel
theorem dX12_isHeapHere_34 : decode cX12_isHeapHere 34 = .ok (.aload_n 0, 1) := by decide +kernel
theorem dX12_isHeapHere_35 : decode cX12_isHeapHere 35 = .ok (.getfield 26, 3) := by decide +kernel
theorem dX12_isHeapHere_38 : decode cX12_isHeapHere 38 = .ok (.iconst 1, 1) := by decide +kernel
theorem dX12_isHeapHere_39 : decode cX12_isHeapHere 39 = .ok (.iaload, 1) := by decide +kernel
theorem dX12_isHeapHere_40 : decode cX12_isHeapHere 40 = .ok (.iconst 1, 1) := by decide +kernel
theorem dX12_isHeapHere_41 : decode cX12_isHeapHere 41 = .ok (.isub, 1) := by decide +kernel
theorem dX12_isHeapHere_42 : decode cX12_isHeapHere 42 = .ok (.invokevirtual 175, 3) := by decide +kernel
theorem dX12_isHeapHere_45 : decode cX12_isHeapHere 45 = .ok (.ifCond .ne 5, 3) := by decide +kernel
theorem dX12_isHeapHere_50 : decode cX12_isHeapHere 50 = .ok (.aload_n 0, 1) := by decide +kernel
theorem dX12_isHeapHere_51 : decode cX12_isHeapHere 51 = .ok (.iload_n 1, 1) := by decide +kernel
theorem dX12_isHeapHere_52 : decode cX12_isHeapHere 52 = .ok (.aload_n 0, 1) := by decide +kernel
theorem dX12_isHeapHere_53 : decode cX12_isHeapHere 53 = .ok (.getfield 127, 3) := by decide +kernel
theorem dX12_isHeapHere_56 : decode cX12_isHeapHere 56 = .ok (.iadd, 1) := by decide +kernel
theorem dX12_isHeapHere_57 : decode cX12_isHeapHere 57 = .ok (.iconst 0, 1) := by decide +kernel
theorem dX12_isHeapHere_58 : decode cX12_isHeapHere 58 = .ok (.bipush 9, 2) := by decide +kernel
theorem dX12_isHeapHere_60 : decode cX12_isHeapHere 60 = .ok (.invokevirtual 226, 3) := by decide +kernel
theorem dX12_isHeapHere_63 : decode cX12_isHeapHere 63 = .ok (.ireturn, 1) := by decide +kernel
theorem dX12_isHeapHere_48 : decode cX12_isHeapHere 48 = .ok (.iconst 0, 1) := by decide +kernel
theorem dX12_isHeapHere_49 : decode cX12_isHeapHere 49 = .ok (.ireturn, 1) := by decide +kernel
theorem dX12_isHeapHere_20 : decode cX12_isHeapHere 20 = .ok (.iconst 0, 1) := by decide +kernel
theorem dX12_isHeapHere_21 : decode cX12_isHeapHere 21 = .ok (.ireturn, 1) := by decide +kernel
set_option maxHeartbeats 4000000 in
set_option maxRecDepth 100000 in
theorem cz_X12_isHeapHere (l : Launch) (D : va_G) (cA : Nat → ClassId) (L : List Nat) (T : Nat → Nat) (r : Rg) (hG : GR L T r) (hL : L.Nodup) (σ : Sg) (ρ : Lg) (hW : WT L ry T σ) (sz : Nat) (h0 : Nat) (mh0 : h0 ∈ L) (th0 : T h0 = 12) (bt : Nat) (hbt : r h0 0 = some bt) (mbt : bt ∈ L) (tbt : T bt = 61) (bd : Nat) (hbd : r h0 7 = some bd) (mbd : bd ∈ L) (tbd : T bd = 66) : Met l yX12_isHeapHere (.code yX12_isHeapHere cX12_isHeapHere 2 (some .boolean) :: wsA) ({ frames := 3, cells := 0, slots := 0, locals := 72 }) (PR D cA L T r σ ρ sz [.ref h0]) (QI D cA L T r ry [(12, 8), (12, 9), (12, 10), (66, 1000)] σ sz (fun x σ1 => (0 ≤ x.toInt ∧ x.toInt ≤ 1) ∧ ((σ h0 8).toInt ≤ (σ1 h0 8).toInt))) 0 0 (dm L sz) := by
  refine Met.ofW (cc := cX12_isHeapHere) (maxL := 2) (ret := (some .boolean)) (by decide) rfl ?_
  intro p e s m args below meth c s₁ B hml hv
  obtain ⟨rfl, hsz, hP, hK, hN⟩ := hv
  have hx := B.exec
  have hb := B.bytes
  have hr := B.returns
  have hts : ∀ w ∈ wsA, w.before _ s = true := fun w h => atoms_spec (ws := .code yX12_isHeapHere cX12_isHeapHere 2 (some .boolean) :: wsA) B.pre w (List.mem_cons_of_mem _ h)
  have hown : s.vm.findClass RX12 = some m.cls := findClass_of_methodNamed B.named
  subst hsz
  have hLA : LA (dm L s.heap.size) L := ⟨hL, fun a h => Or.inl h⟩
  have hA : ∀ q : Nat, s.heap.size ≤ q → dm L s.heap.size q := fun q h => Or.inr h
  have hS : va_S (dm L s.heap.size) s.heap s.heap [] := va_S.rf
  have hB : TS D cA L T r ry [(12, 8), (12, 9), (12, 10), (66, 1000)] σ σ ρ s.heap := ⟨hP, hW, FR.rf⟩
  have hl := lv_entry ([.ref h0]) (n := 2) (Nat.le_of_ble_eq_true rfl)
  rw [lg_entry_eq]
  generalize (lg_sl ([.ref h0]) ++ List.replicate (2 - (lg_sl ([.ref h0])).length) Slot.unset).toArray = ls at hl ⊢
  have hl : lv_has ls 2 [(0, .ref h0)] := hl
  have w_1 : 0 ≤ (σ h0 8).toInt ∧ (σ h0 8).toInt ≤ 400 := by have z := hB.2.1 h0 mh0 8; rw [th0] at z; exact z
  have w_2 : 0 ≤ (σ h0 1).toInt ∧ (σ h0 1).toInt ≤ 400 := by have z := hB.2.1 h0 mh0 1; rw [th0] at z; exact z
  have z0 : (0 : Int32).toInt = 0 := by decide
  have z9 : (9 : Int32).toInt = 9 := by decide
  have w_3 : 0 ≤ (σ bd 1).toInt ∧ (σ bd 1).toInt ≤ 5 := by have z := hB.2.1 bd mbd 1; rw [tbd] at z; exact z
  have w_4 : 0 ≤ (σ bd 2).toInt ∧ (σ bd 2).toInt ≤ 8 := by have z := hB.2.1 bd mbd 2; rw [tbd] at z; exact z
  have w_5 : 0 ≤ (σ bd 3).toInt ∧ (σ bd 3).toInt ≤ 4 := by have z := hB.2.1 bd mbd 3; rw [tbd] at z; exact z
  refine lv_aload_n hx hb dX12_isHeapHere_0 rfl (lv_at hl 0 rfl) ?_
  refine t_cv (va_runV (As := []) (rest := []) ⟨hx, hb, hml, hown, hts⟩ (cz_X12_passWord l D cA L T r hG hLA.1 σ ρ hB.2.1 _ h0 mh0 th0 bt hbt mbt tbt) (cV hts mv_X12_passWord mw_6_169 rfl rfl ⟨Nat.le_of_ble_eq_true rfl, Nat.le_of_ble_eq_true rfl⟩) (pV hB.1 hK hN mh0 th0 (show shp cA 12 _ _ _ = .inr (12, Fs12 _ _ _) from rfl) rfl) rfl rfl hl.1 rfl (lv_room (Nat.le_of_ble_eq_true rfl)) dX12_isHeapHere_1 ⟨Nat.le_of_ble_eq_true rfl, Nat.le_of_ble_eq_true rfl⟩) hLA hA hB hS (by decide) (fun σ_6 ρ_7 H locs hB fσ_6 pσ_6 hS => ?_)
  obtain ⟨g_9, g_10⟩ := pσ_6
  have w_11 : 0 ≤ (σ_6 h0 8).toInt ∧ (σ_6 h0 8).toInt ≤ 400 := by have z := hB.2.1 h0 mh0 8; rw [th0] at z; exact z
  have k_12 : σ_6 h0 1 = (σ h0 1) := (FR.at fσ_6 th0 (by decide)).trans rfl
  have cq_13 : (σ_6 h0 1).toInt = (σ h0 1).toInt := congrArg Int32.toInt k_12
  refine lv_aload_n hx hb dX12_isHeapHere_4 rfl (lv_at hl 0 rfl) ?_
  refine lv_iconst (v := 0) hx hb dX12_isHeapHere_5 (by decide) ?_
  refine lv_aload_n hx hb dX12_isHeapHere_6 rfl (lv_at hl 0 rfl) ?_
  refine t_gk hx hb hts hown hK hB mh0 th0 fq_12_7 hbd mw_5_223 dX12_isHeapHere_7 ?_
  refine lv_iconst (v := 2) hx hb dX12_isHeapHere_10 (by decide) ?_
  have k_14 : σ_6 bd 2 = (σ bd 2) := (FR.at fσ_6 tbd (by decide)).trans rfl
  refine t_aj hx hb hK hB mbd tbd ai_66 (i_in (by decide) (by decide)) dX12_isHeapHere_11 (fun x_15 ex_15 lx_15 ux_15 => ?_)
  have qx_15 : x_15 = (σ bd 2) := ex_15.trans k_14
  have qx_15 := qx_15.symm
  subst qx_15
  refine lv_iconst (v := 1) hx hb dX12_isHeapHere_12 (by decide) ?_
  refine lv_isub hx hb dX12_isHeapHere_13 ?_
  refine lv_topi (fun x_16 ex_16 => ?_)
  have vx_16 := b_sub (rfl : (σ bd 2).toInt = _) (by decide : (1 : Int32).toInt = 1) ex_16 (by omega) (by omega)
  refine t_ci (va_runV (As := [.int 0, .int x_16]) (rest := []) ⟨hx, hb, hml, hown, hts⟩ (cz_X12_numberHere l D cA L T r hG hLA.1 σ_6 ρ_7 hB.2.1 _ h0 mh0 th0 0 x_16 bt hbt mbt tbt) (cV hts mv_X12_numberHere mw_6_177 rfl rfl ⟨Nat.le_of_ble_eq_true rfl, Nat.le_of_ble_eq_true rfl⟩) (pV hB.1 hK hN mh0 th0 (show shp cA 12 _ _ _ = .inr (12, Fs12 _ _ _) from rfl) rfl) rfl rfl hl.1 rfl (lv_room (Nat.le_of_ble_eq_true rfl)) dX12_isHeapHere_14 ⟨Nat.le_of_ble_eq_true rfl, Nat.le_of_ble_eq_true rfl⟩) hLA hA hB hS (by decide) (fun x_19 σ_17 ρ_18 H locs hB fσ_17 pσ_17 hS => ?_)
  obtain ⟨g_20, g_21, g_22, g_23⟩ := pσ_17
  have w_24 : 0 ≤ (σ_17 h0 8).toInt ∧ (σ_17 h0 8).toInt ≤ 400 := by have z := hB.2.1 h0 mh0 8; rw [th0] at z; exact z
  have w_25 : (-2147483648) ≤ (σ_17 h0 10).toInt ∧ (σ_17 h0 10).toInt ≤ 2147483647 := by have z := hB.2.1 h0 mh0 10; rw [th0] at z; exact z
  obtain ⟨lx_19, ux_19⟩ := g_20
  have k_26 : σ_17 h0 1 = (σ h0 1) := (FR.at fσ_17 th0 (by decide)).trans k_12
  have cq_27 : (σ_17 h0 1).toInt = (σ h0 1).toInt := congrArg Int32.toInt k_26
  refine lv_if_ne (tgt := 22) hx hb dX12_isHeapHere_17 (by decide) (fun c_28 => ?_) (fun c_28 => ?_)
  · skip
    have uc_28 := i_ne (n := 0) (by decide) c_28
    refine lv_bipush (v := 125) hx hb dX12_isHeapHere_22 (by decide) ?_
    refine lv_iconst (v := 5) hx hb dX12_isHeapHere_24 (by decide) ?_
    refine lv_aload_n hx hb dX12_isHeapHere_25 rfl (lv_at hl 0 rfl) ?_
    refine t_gv hx hb hts hown hK hB mh0 th0 fi_12_10 rfl mw_5_226 dX12_isHeapHere_26 ?_
    have nr_29 : 0 ≤ (σ_17 h0 10).toInt ∧ (σ_17 h0 10).toInt ≤ 7 := by omega
    refine lv_imul hx hb dX12_isHeapHere_29 ?_
    refine lv_topi (fun x_30 ex_30 => ?_)
    have vx_30 := b_mul (by decide : (5 : Int32).toInt = 5) (rfl : (σ_17 h0 10).toInt = _) ex_30 (by omega) (by omega)
    refine lv_iadd hx hb dX12_isHeapHere_30 ?_
    refine lv_topi (fun x_31 ex_31 => ?_)
    have vx_31 := b_add (by decide : (125 : Int32).toInt = 125) (rfl : x_30.toInt = _) ex_31 (by omega) (by omega)
    refine lv_istore_n (lv' := [(1, .int x_31), (0, .ref h0)]) hx hb dX12_isHeapHere_31 rfl hl (by decide) rfl (fun ls hl => ?_)
    refine lv_aload_n hx hb dX12_isHeapHere_32 rfl (lv_at hl 1 rfl) ?_
    refine lv_iconst (v := 0) hx hb dX12_isHeapHere_33 (by decide) ?_
    refine lv_aload_n hx hb dX12_isHeapHere_34 rfl (lv_at hl 1 rfl) ?_
    refine t_gk hx hb hts hown hK hB mh0 th0 fq_12_7 hbd mw_5_223 dX12_isHeapHere_35 ?_
    refine lv_iconst (v := 1) hx hb dX12_isHeapHere_38 (by decide) ?_
    have k_32 : σ_6 bd 1 = (σ bd 1) := (FR.at fσ_6 tbd (by decide)).trans rfl
    have k_33 : σ_17 bd 1 = (σ bd 1) := (FR.at fσ_17 tbd (by decide)).trans k_32
    refine t_aj hx hb hK hB mbd tbd ai_66 (i_in (by decide) (by decide)) dX12_isHeapHere_39 (fun x_34 ex_34 lx_34 ux_34 => ?_)
    have qx_34 : x_34 = (σ bd 1) := ex_34.trans k_33
    have qx_34 := qx_34.symm
    subst qx_34
    refine lv_iconst (v := 1) hx hb dX12_isHeapHere_40 (by decide) ?_
    refine lv_isub hx hb dX12_isHeapHere_41 ?_
    refine lv_topi (fun x_35 ex_35 => ?_)
    have vx_35 := b_sub (rfl : (σ bd 1).toInt = _) (by decide : (1 : Int32).toInt = 1) ex_35 (by omega) (by omega)
    refine t_ci (va_runV (As := [.int 0, .int x_35]) (rest := []) ⟨hx, hb, hml, hown, hts⟩ (cz_X12_numberHere l D cA L T r hG hLA.1 σ_17 ρ_18 hB.2.1 _ h0 mh0 th0 0 x_35 bt hbt mbt tbt) (cV hts mv_X12_numberHere mw_6_177 rfl rfl ⟨Nat.le_of_ble_eq_true rfl, Nat.le_of_ble_eq_true rfl⟩) (pV hB.1 hK hN mh0 th0 (show shp cA 12 _ _ _ = .inr (12, Fs12 _ _ _) from rfl) rfl) rfl rfl hl.1 rfl (lv_room (Nat.le_of_ble_eq_true rfl)) dX12_isHeapHere_42 ⟨Nat.le_of_ble_eq_true rfl, Nat.le_of_ble_eq_true rfl⟩) hLA hA hB hS (by decide) (fun x_38 σ_36 ρ_37 H locs hB fσ_36 pσ_36 hS => ?_)
    obtain ⟨g_39, g_40, g_41, g_42⟩ := pσ_36
    have w_43 : 0 ≤ (σ_36 h0 8).toInt ∧ (σ_36 h0 8).toInt ≤ 400 := by have z := hB.2.1 h0 mh0 8; rw [th0] at z; exact z
    have w_44 : (-2147483648) ≤ (σ_36 h0 10).toInt ∧ (σ_36 h0 10).toInt ≤ 2147483647 := by have z := hB.2.1 h0 mh0 10; rw [th0] at z; exact z
    obtain ⟨lx_38, ux_38⟩ := g_39
    have k_45 : σ_36 h0 1 = (σ h0 1) := (FR.at fσ_36 th0 (by decide)).trans k_26
    have cq_46 : (σ_36 h0 1).toInt = (σ h0 1).toInt := congrArg Int32.toInt k_45
    refine lv_if_ne (tgt := 50) hx hb dX12_isHeapHere_45 (by decide) (fun c_47 => ?_) (fun c_47 => ?_)
    · skip
      have uc_47 := i_ne (n := 0) (by decide) c_47
      refine lv_aload_n hx hb dX12_isHeapHere_50 rfl (lv_at hl 1 rfl) ?_
      refine lv_iload_n hx hb dX12_isHeapHere_51 rfl (lv_at hl 0 rfl) ?_
      refine lv_aload_n hx hb dX12_isHeapHere_52 rfl (lv_at hl 1 rfl) ?_
      refine t_gv hx hb hts hown hK hB mh0 th0 fi_12_10 rfl mw_5_226 dX12_isHeapHere_53 ?_
      have nr_48 : 0 ≤ (σ_36 h0 10).toInt ∧ (σ_36 h0 10).toInt ≤ 4 := by omega
      refine lv_iadd hx hb dX12_isHeapHere_56 ?_
      refine lv_topi (fun x_49 ex_49 => ?_)
      have vx_49 := b_add (rfl : x_31.toInt = _) (rfl : (σ_36 h0 10).toInt = _) ex_49 (by omega) (by omega)
      refine lv_iconst (v := 0) hx hb dX12_isHeapHere_57 (by decide) ?_
      refine lv_bipush (v := 9) hx hb dX12_isHeapHere_58 (by decide) ?_
      have k_50 : σ_36 bd 1 = (σ bd 1) := (FR.at fσ_36 tbd (by decide)).trans k_33
      have k_51 : σ_17 bd 2 = (σ bd 2) := (FR.at fσ_17 tbd (by decide)).trans k_14
      have k_52 : σ_36 bd 2 = (σ bd 2) := (FR.at fσ_36 tbd (by decide)).trans k_51
      have k_53 : σ_6 bd 3 = (σ bd 3) := (FR.at fσ_6 tbd (by decide)).trans rfl
      have k_54 : σ_17 bd 3 = (σ bd 3) := (FR.at fσ_17 tbd (by decide)).trans k_53
      have k_55 : σ_36 bd 3 = (σ bd 3) := (FR.at fσ_36 tbd (by decide)).trans k_54
      refine t_ci (va_runV (As := [.int x_49, .int 0, .int 9]) (rest := []) ⟨hx, hb, hml, hown, hts⟩ (cz_X12_cellHere l D cA L T r hG hLA.1 σ_36 ρ_37 hB.2.1 _ h0 mh0 th0 x_49 0 9 bt hbt mbt tbt bd hbd mbd tbd (by first | omega | decide) (by first | omega | decide) (by rw [sbK (by have hn : (x_49 : Int32).toNatClampNeg = x_49.toInt.toNat := rfl; omega) (by have hn : (x_49 : Int32).toNatClampNeg = x_49.toInt.toNat := rfl; omega)]; show (0 : Int) ≤ _; omega) (by rw [sbK (by have hn : (x_49 : Int32).toNatClampNeg = x_49.toInt.toNat := rfl; omega) (by have hn : (x_49 : Int32).toNatClampNeg = x_49.toInt.toNat := rfl; omega)]; show _ ≤ (9 : Int); omega)) (cV hts mv_X12_cellHere mw_6_173 rfl rfl ⟨Nat.le_of_ble_eq_true rfl, Nat.le_of_ble_eq_true rfl⟩) (pV hB.1 hK hN mh0 th0 (show shp cA 12 _ _ _ = .inr (12, Fs12 _ _ _) from rfl) rfl) rfl rfl hl.1 rfl (lv_room (Nat.le_of_ble_eq_true rfl)) dX12_isHeapHere_60 ⟨Nat.le_of_ble_eq_true rfl, Nat.le_of_ble_eq_true rfl⟩) hLA hA hB hS (by decide) (fun x_58 σ_56 ρ_57 H locs hB fσ_56 pσ_56 hS => ?_)
      obtain ⟨g_59, g_60, g_61⟩ := pσ_56
      have w_62 : 0 ≤ (σ_56 h0 8).toInt ∧ (σ_56 h0 8).toInt ≤ 400 := by have z := hB.2.1 h0 mh0 8; rw [th0] at z; exact z
      have k_63 : σ_56 bd 1 = (σ bd 1) := (g_61 1 (by have hn : (x_49 : Int32).toNatClampNeg = x_49.toInt.toNat := rfl; omega)).trans k_50
      have k_64 : σ_56 bd 2 = (σ bd 2) := (g_61 2 (by have hn : (x_49 : Int32).toNatClampNeg = x_49.toInt.toNat := rfl; omega)).trans k_52
      have k_65 : σ_56 bd 3 = (σ bd 3) := (g_61 3 (by have hn : (x_49 : Int32).toNatClampNeg = x_49.toInt.toNat := rfl; omega)).trans k_55
      obtain ⟨lx_58, ux_58⟩ := g_59
      have k_66 : σ_56 h0 1 = (σ h0 1) := (FR.at fσ_56 th0 (by decide)).trans k_45
      have cq_67 : (σ_56 h0 1).toInt = (σ h0 1).toInt := congrArg Int32.toInt k_66
      exact W.zret (v := x_58) hx hb hr (n_bool (by omega) (by omega)) (fun t ht hW => ⟨⟨x_58, (σ_56, ρ_57), rfl, ⟨hB.2.1, hB.2.2, ⟨(show 0 ≤ (x_58 : Int32).toInt ∧ (x_58 : Int32).toInt ≤ 1 from ⟨by omega, by omega⟩), (show (σ h0 8).toInt ≤ (σ_56 h0 8).toInt from (by omega))⟩⟩, (show TP D cA L T r σ_56 ρ_57 t.heap from by rw [ht]; exact hB.1)⟩, hS.F ht⟩) hS.2.2 dX12_isHeapHere_63
    · skip
      have uc_47 := i_eq (n := 0) (by decide) c_47
      refine lv_iconst (v := 0) hx hb dX12_isHeapHere_48 (by decide) ?_
      exact W.zret (v := 0) hx hb hr rfl (fun t ht hW => ⟨⟨0, (σ_36, ρ_37), rfl, ⟨hB.2.1, hB.2.2, ⟨(show 0 ≤ (0 : Int32).toInt ∧ (0 : Int32).toInt ≤ 1 from ⟨by decide, by decide⟩), (show (σ h0 8).toInt ≤ (σ_36 h0 8).toInt from (by omega))⟩⟩, (show TP D cA L T r σ_36 ρ_37 t.heap from by rw [ht]; exact hB.1)⟩, hS.F ht⟩) hS.2.2 dX12_isHeapHere_49
  · skip
    have uc_28 := i_eq (n := 0) (by decide) c_28
    refine lv_iconst (v := 0) hx hb dX12_isHeapHere_20 (by decide) ?_
    exact W.zret (v := 0) hx hb hr rfl (fun t ht hW => ⟨⟨0, (σ_17, ρ_18), rfl, ⟨hB.2.1, hB.2.2, ⟨(show 0 ≤ (0 : Int32).toInt ∧ (0 : Int32).toInt ≤ 1 from ⟨by decide, by decide⟩), (show (σ h0 8).toInt ≤ (σ_17 h0 8).toInt from (by omega))⟩⟩, (show TP D cA L T r σ_17 ρ_18 t.heap from by rw [ht]; exact hB.1)⟩, hS.F ht⟩) hS.2.2 dX12_isHeapHere_21
theorem mw_6_210 : (.instanceMethod yX12_isHeapHere : Cond) ∈ wsA := wsA_t (List.mem_append_right _ (List.mem_append_right _ (List.mem_append_right _ (List.mem_append_right _ (List.mem_append_right _ (List.mem_append_left _ (List.mem_of_getElem? (l := tables_1_6) (i := 210) rfl))))))) rfl
theorem mp_4_13 : (.selects RX12 yX12_isHeapHere yX12_isHeapHere : Cond) ∈ wsA := wsA_p (q := (yX12_isHeapHere, 44)) (List.mem_append_right _ (List.mem_append_right _ (List.mem_append_right _ (List.mem_append_left _ (List.mem_of_getElem? (l := lw_privs_4) (i := 13) rfl)))))
theorem mw_6_211 : (.code yX12_isHeapHere cX12_isHeapHere 2 (some .boolean) : Cond) ∈ wsA := wsA_t (List.mem_append_right _ (List.mem_append_right _ (List.mem_append_right _ (List.mem_append_right _ (List.mem_append_right _ (List.mem_append_left _ (List.mem_of_getElem? (l := tables_1_6) (i := 211) rfl))))))) rfl
theorem mw_6_208 : (.methodLink RX12 256 yX12_isHeapHere : Cond) ∈ wsA := wsA_t (List.mem_append_right _ (List.mem_append_right _ (List.mem_append_right _ (List.mem_append_right _ (List.mem_append_right _ (List.mem_append_left _ (List.mem_of_getElem? (l := tables_1_6) (i := 208) rfl))))))) rfl
theorem mw_6_202 : (.instanceMethod yX12_areThingsHere : Cond) ∈ wsA := wsA_t (List.mem_append_right _ (List.mem_append_right _ (List.mem_append_right _ (List.mem_append_right _ (List.mem_append_right _ (List.mem_append_left _ (List.mem_of_getElem? (l := tables_1_6) (i := 202) rfl))))))) rfl
theorem mp_4_11 : (.selects RX12 yX12_areThingsHere yX12_areThingsHere : Cond) ∈ wsA := wsA_p (q := (yX12_areThingsHere, 44)) (List.mem_append_right _ (List.mem_append_right _ (List.mem_append_right _ (List.mem_append_left _ (List.mem_of_getElem? (l := lw_privs_4) (i := 11) rfl)))))
theorem mw_6_203 : (.code yX12_areThingsHere cX12_areThingsHere 5 (some .boolean) : Cond) ∈ wsA := wsA_t (List.mem_append_right _ (List.mem_append_right _ (List.mem_append_right _ (List.mem_append_right _ (List.mem_append_right _ (List.mem_append_left _ (List.mem_of_getElem? (l := tables_1_6) (i := 203) rfl))))))) rfl
theorem mw_6_200 : (.methodLink RX12 253 yX12_areThingsHere : Cond) ∈ wsA := wsA_t (List.mem_append_right _ (List.mem_append_right _ (List.mem_append_right _ (List.mem_append_right _ (List.mem_append_right _ (List.mem_append_left _ (List.mem_of_getElem? (l := tables_1_6) (i := 200) rfl))))))) rfl
theorem mw_6_198 : (.instanceMethod yX12_isPilgrimHere : Cond) ∈ wsA := wsA_t (List.mem_append_right _ (List.mem_append_right _ (List.mem_append_right _ (List.mem_append_right _ (List.mem_append_right _ (List.mem_append_left _ (List.mem_of_getElem? (l := tables_1_6) (i := 198) rfl))))))) rfl
theorem mp_4_10 : (.selects RX12 yX12_isPilgrimHere yX12_isPilgrimHere : Cond) ∈ wsA := wsA_p (q := (yX12_isPilgrimHere, 44)) (List.mem_append_right _ (List.mem_append_right _ (List.mem_append_right _ (List.mem_append_left _ (List.mem_of_getElem? (l := lw_privs_4) (i := 10) rfl)))))
theorem mw_6_199 : (.code yX12_isPilgrimHere cX12_isPilgrimHere 4 (some .boolean) : Cond) ∈ wsA := wsA_t (List.mem_append_right _ (List.mem_append_right _ (List.mem_append_right _ (List.mem_append_right _ (List.mem_append_right _ (List.mem_append_left _ (List.mem_of_getElem? (l := tables_1_6) (i := 199) rfl))))))) rfl
theorem mw_6_196 : (.methodLink RX12 248 yX12_isPilgrimHere : Cond) ∈ wsA := wsA_t (List.mem_append_right _ (List.mem_append_right _ (List.mem_append_right _ (List.mem_append_right _ (List.mem_append_right _ (List.mem_append_left _ (List.mem_of_getElem? (l := tables_1_6) (i := 196) rfl))))))) rfl
theorem mw_6_194 : (.instanceMethod yX12_isBendHere : Cond) ∈ wsA := wsA_t (List.mem_append_right _ (List.mem_append_right _ (List.mem_append_right _ (List.mem_append_right _ (List.mem_append_right _ (List.mem_append_left _ (List.mem_of_getElem? (l := tables_1_6) (i := 194) rfl))))))) rfl
theorem mp_4_9 : (.selects RX12 yX12_isBendHere yX12_isBendHere : Cond) ∈ wsA := wsA_p (q := (yX12_isBendHere, 44)) (List.mem_append_right _ (List.mem_append_right _ (List.mem_append_right _ (List.mem_append_left _ (List.mem_of_getElem? (l := lw_privs_4) (i := 9) rfl)))))
theorem mw_6_195 : (.code yX12_isBendHere cX12_isBendHere 3 (some .boolean) : Cond) ∈ wsA := wsA_t (List.mem_append_right _ (List.mem_append_right _ (List.mem_append_right _ (List.mem_append_right _ (List.mem_append_right _ (List.mem_append_left _ (List.mem_of_getElem? (l := tables_1_6) (i := 195) rfl))))))) rfl
theorem mw_6_192 : (.methodLink RX12 243 yX12_isBendHere : Cond) ∈ wsA := wsA_t (List.mem_append_right _ (List.mem_append_right _ (List.mem_append_right _ (List.mem_append_right _ (List.mem_append_right _ (List.mem_append_left _ (List.mem_of_getElem? (l := tables_1_6) (i := 192) rfl))))))) rfl
theorem mw_6_190 : (.instanceMethod yX12_isSortHere : Cond) ∈ wsA := wsA_t (List.mem_append_right _ (List.mem_append_right _ (List.mem_append_right _ (List.mem_append_right _ (List.mem_append_right _ (List.mem_append_left _ (List.mem_of_getElem? (l := tables_1_6) (i := 190) rfl))))))) rfl
theorem mp_4_8 : (.selects RX12 yX12_isSortHere yX12_isSortHere : Cond) ∈ wsA := wsA_p (q := (yX12_isSortHere, 44)) (List.mem_append_right _ (List.mem_append_right _ (List.mem_append_right _ (List.mem_append_left _ (List.mem_of_getElem? (l := lw_privs_4) (i := 8) rfl)))))
theorem mw_6_191 : (.code yX12_isSortHere cX12_isSortHere 3 (some .boolean) : Cond) ∈ wsA := wsA_t (List.mem_append_right _ (List.mem_append_right _ (List.mem_append_right _ (List.mem_append_right _ (List.mem_append_right _ (List.mem_append_left _ (List.mem_of_getElem? (l := tables_1_6) (i := 191) rfl))))))) rfl
theorem mw_6_188 : (.methodLink RX12 240 yX12_isSortHere : Cond) ∈ wsA := wsA_t (List.mem_append_right _ (List.mem_append_right _ (List.mem_append_right _ (List.mem_append_right _ (List.mem_append_right _ (List.mem_append_left _ (List.mem_of_getElem? (l := tables_1_6) (i := 188) rfl))))))) rfl
theorem mw_6_167 : (.instanceMethod yX12_isHillHere : Cond) ∈ wsA := wsA_t (List.mem_append_right _ (List.mem_append_right _ (List.mem_append_right _ (List.mem_append_right _ (List.mem_append_right _ (List.mem_append_left _ (List.mem_of_getElem? (l := tables_1_6) (i := 167) rfl))))))) rfl
theorem mp_4_3 : (.selects RX12 yX12_isHillHere yX12_isHillHere : Cond) ∈ wsA := wsA_p (q := (yX12_isHillHere, 44)) (List.mem_append_right _ (List.mem_append_right _ (List.mem_append_right _ (List.mem_append_left _ (List.mem_of_getElem? (l := lw_privs_4) (i := 3) rfl)))))
theorem mw_6_168 : (.code yX12_isHillHere cX12_isHillHere 2 (some .boolean) : Cond) ∈ wsA := wsA_t (List.mem_append_right _ (List.mem_append_right _ (List.mem_append_right _ (List.mem_append_right _ (List.mem_append_right _ (List.mem_append_left _ (List.mem_of_getElem? (l := tables_1_6) (i := 168) rfl))))))) rfl
theorem mw_6_165 : (.methodLink RX12 235 yX12_isHillHere : Cond) ∈ wsA := wsA_t (List.mem_append_right _ (List.mem_append_right _ (List.mem_append_right _ (List.mem_append_right _ (List.mem_append_right _ (List.mem_append_left _ (List.mem_of_getElem? (l := tables_1_6) (i := 165) rfl))))))) rfl
theorem dX12_hillLineHere_0 : decode cX12_hillLineHere 0 = .ok (.aload_n 0, 1) := by decide +kernel
theorem dX12_hillLineHere_1 : decode cX12_hillLineHere 1 = .ok (.ldc2_w 233, 3) := by decide +kernel
theorem dX12_hillLineHere_4 : decode cX12_hillLineHere 4 = .ok (.invokevirtual 113, 3) := by decide +kernel
theorem dX12_hillLineHere_7 : decode cX12_hillLineHere 7 = .ok (.ifCond .eq 9, 3) := by decide +kernel
theorem dX12_hillLineHere_16 : decode cX12_hillLineHere 16 = .ok (.aload_n 0, 1) := by decide +kernel
theorem dX12_hillLineHere_17 : decode cX12_hillLineHere 17 = .ok (.getfield 26, 3) := by decide +kernel
theorem dX12_hillLineHere_20 : decode cX12_hillLineHere 20 = .ok (.iconst 0, 1) := by decide +kernel
theorem dX12_hillLineHere_21 : decode cX12_hillLineHere 21 = .ok (.iaload, 1) := by decide +kernel
theorem dX12_hillLineHere_22 : decode cX12_hillLineHere 22 = .ok (.ifCond .ne 10, 3) := by decide +kernel
theorem dX12_hillLineHere_32 : decode cX12_hillLineHere 32 = .ok (.aload_n 0, 1) := by decide +kernel
theorem dX12_hillLineHere_33 : decode cX12_hillLineHere 33 = .ok (.ldc2_w 238, 3) := by decide +kernel
theorem dX12_hillLineHere_36 : decode cX12_hillLineHere 36 = .ok (.invokevirtual 113, 3) := by decide +kernel
theorem dX12_hillLineHere_39 : decode cX12_hillLineHere 39 = .ok (.ifCond .eq 9, 3) := by decide +kernel
theorem dX12_hillLineHere_48 : decode cX12_hillLineHere 48 = .ok (.aload_n 0, 1) := by decide +kernel
theorem dX12_hillLineHere_49 : decode cX12_hillLineHere 49 = .ok (.ldc2_w 134, 3) := by decide +kernel
theorem dX12_hillLineHere_52 : decode cX12_hillLineHere 52 = .ok (.invokevirtual 113, 3) := by decide +kernel
theorem dX12_hillLineHere_55 : decode cX12_hillLineHere 55 = .ok (.ifCond .eq 9, 3) := by decide +kernel
theorem dX12_hillLineHere_64 : decode cX12_hillLineHere 64 = .ok (.aload_n 0, 1) := by decide +kernel
theorem dX12_hillLineHere_65 : decode cX12_hillLineHere 65 = .ok (.ldc2_w 246, 3) := by decide +kernel
theorem dX12_hillLineHere_68 : decode cX12_hillLineHere 68 = .ok (.invokevirtual 113, 3) := by decide +kernel
theorem dX12_hillLineHere_71 : decode cX12_hillLineHere 71 = .ok (.ifCond .eq 9, 3) := by decide +kernel
theorem dX12_hillLineHere_80 : decode cX12_hillLineHere 80 = .ok (.aload_n 0, 1) := by decide +kernel
theorem dX12_hillLineHere_81 : decode cX12_hillLineHere 81 = .ok (.ldc2_w 251, 3) := by decide +kernel
theorem dX12_hillLineHere_84 : decode cX12_hillLineHere 84 = .ok (.invokevirtual 113, 3) := by decide +kernel
theorem dX12_hillLineHere_87 : decode cX12_hillLineHere 87 = .ok (.ifCond .eq 10, 3) := by decide +kernel
theorem dX12_hillLineHere_97 : decode cX12_hillLineHere 97 = .ok (.aload_n 0, 1) := by decide +kernel
theorem dX12_hillLineHere_98 : decode cX12_hillLineHere 98 = .ok (.invokevirtual 256, 3) := by decide +kernel
theorem dX12_hillLineHere_101 : decode cX12_hillLineHere 101 = .ok (.ireturn, 1) := by decide +kernel
theorem dX12_hillLineHere_90 : decode cX12_hillLineHere 90 = .ok (.aload_n 0, 1) := by decide +kernel
theorem dX12_hillLineHere_91 : decode cX12_hillLineHere 91 = .ok (.invokevirtual 253, 3) := by decide +kernel
theorem dX12_hillLineHere_94 : decode cX12_hillLineHere 94 = .ok (.goto 7, 3) := by decide +kernel
theorem dX12_hillLineHere_74 : decode cX12_hillLineHere 74 = .ok (.aload_n 0, 1) := by decide +kernel
theorem dX12_hillLineHere_75 : decode cX12_hillLineHere 75 = .ok (.iload_n 1, 1) := by decide +kernel
theorem dX12_hillLineHere_76 : decode cX12_hillLineHere 76 = .ok (.invokevirtual 248, 3) := by decide +kernel
theorem dX12_hillLineHere_79 : decode cX12_hillLineHere 79 = .ok (.ireturn, 1) := by decide +kernel
theorem dX12_hillLineHere_58 : decode cX12_hillLineHere 58 = .ok (.aload_n 0, 1) := by decide +kernel
theorem dX12_hillLineHere_59 : decode cX12_hillLineHere 59 = .ok (.iload_n 1, 1) := by decide +kernel
theorem dX12_hillLineHere_60 : decode cX12_hillLineHere 60 = .ok (.invokevirtual 243, 3) := by decide +kernel
theorem dX12_hillLineHere_63 : decode cX12_hillLineHere 63 = .ok (.ireturn, 1) := by decide +kernel
theorem dX12_hillLineHere_42 : decode cX12_hillLineHere 42 = .ok (.aload_n 0, 1) := by decide +kernel
theorem dX12_hillLineHere_43 : decode cX12_hillLineHere 43 = .ok (.iload_n 1, 1) := by decide +kernel
theorem dX12_hillLineHere_44 : decode cX12_hillLineHere 44 = .ok (.invokevirtual 240, 3) := by decide +kernel
theorem dX12_hillLineHere_47 : decode cX12_hillLineHere 47 = .ok (.ireturn, 1) := by decide +kernel
theorem dX12_hillLineHere_25 : decode cX12_hillLineHere 25 = .ok (.aload_n 0, 1) := by decide +kernel
theorem dX12_hillLineHere_26 : decode cX12_hillLineHere 26 = .ok (.iconst 4, 1) := by decide +kernel
theorem dX12_hillLineHere_27 : decode cX12_hillLineHere 27 = .ok (.iload_n 1, 1) := by decide +kernel
theorem dX12_hillLineHere_28 : decode cX12_hillLineHere 28 = .ok (.invokevirtual 123, 3) := by decide +kernel
theorem dX12_hillLineHere_31 : decode cX12_hillLineHere 31 = .ok (.ireturn, 1) := by decide +kernel
theorem dX12_hillLineHere_10 : decode cX12_hillLineHere 10 = .ok (.aload_n 0, 1) := by decide +kernel
theorem dX12_hillLineHere_11 : decode cX12_hillLineHere 11 = .ok (.iload_n 1, 1) := by decide +kernel
theorem dX12_hillLineHere_12 : decode cX12_hillLineHere 12 = .ok (.invokevirtual 235, 3) := by decide +kernel
theorem dX12_hillLineHere_15 : decode cX12_hillLineHere 15 = .ok (.ireturn, 1) := by decide +kernel
theorem mv_X12_isHeapHere : MV RX12 yX12_isHeapHere cX12_isHeapHere 2 (some .boolean) 0 := ⟨mw_6_210, mp_4_13, mw_1_13, mw_6_211, ⟨rfl, by decide, by decide, by decide +kernel⟩⟩
theorem mv_X12_areThingsHere : MV RX12 yX12_areThingsHere cX12_areThingsHere 5 (some .boolean) 0 := ⟨mw_6_202, mp_4_11, mw_1_13, mw_6_203, ⟨rfl, by decide, by decide, by decide +kernel⟩⟩
theorem mv_X12_isPilgrimHere : MV RX12 yX12_isPilgrimHere cX12_isPilgrimHere 4 (some .boolean) 1 := ⟨mw_6_198, mp_4_10, mw_1_13, mw_6_199, ⟨rfl, by decide, by decide, by decide +kernel⟩⟩
theorem mv_X12_isBendHere : MV RX12 yX12_isBendHere cX12_isBendHere 3 (some .boolean) 1 := ⟨mw_6_194, mp_4_9, mw_1_13, mw_6_195, ⟨rfl, by decide, by decide, by decide +kernel⟩⟩
theorem mv_X12_isSortHere : MV RX12 yX12_isSortHere cX12_isSortHere 3 (some .boolean) 1 := ⟨mw_6_190, mp_4_8, mw_1_13, mw_6_191, ⟨rfl, by decide, by decide, by decide +kernel⟩⟩
theorem mv_X12_isHillHere : MV RX12 yX12_isHillHere cX12_isHillHere 2 (some .boolean) 1 := ⟨mw_6_167, mp_4_3, mw_1_13, mw_6_168, ⟨rfl, by decide, by decide, by decide +kernel⟩⟩
set_option maxHeartbeats 4000000 in
set_option maxRecDepth 100000 in
theorem cz_X12_hillLineHere (l : Launch) (D : va_G) (cA : Nat → ClassId) (L : List Nat) (T : Nat → Nat) (r : Rg) (hG : GR L T r) (hL : L.Nodup) (σ : Sg) (ρ : Lg) (hW : WT L ry T σ) (sz : Nat) (h0 : Nat) (mh0 : h0 ∈ L) (th0 : T h0 = 12) (p1 : Int32) (bt : Nat) (hbt : r h0 0 = some bt) (mbt : bt ∈ L) (tbt : T bt = 61) (w0 : 0 ≤ p1.toInt) (w1 : p1.toInt ≤ 400) : Met l yX12_hillLineHere (.code yX12_hillLineHere cX12_hillLineHere 2 (some .boolean) :: wsA) ({ frames := 4, cells := 0, slots := 0, locals := 95 }) (PR D cA L T r σ ρ sz [.ref h0, .int p1]) (QI D cA L T r ry [(12, 8), (12, 9), (12, 10), (66, 1000)] σ sz (fun x σ1 => (0 ≤ x.toInt ∧ x.toInt ≤ 1) ∧ ((σ h0 8).toInt ≤ (σ1 h0 8).toInt))) 0 0 (dm L sz) := by
  refine Met.ofW (cc := cX12_hillLineHere) (maxL := 2) (ret := (some .boolean)) (by decide) rfl ?_
  intro p e s m args below meth c s₁ B hml hv
  obtain ⟨rfl, hsz, hP, hK, hN⟩ := hv
  have hx := B.exec
  have hb := B.bytes
  have hr := B.returns
  have hts : ∀ w ∈ wsA, w.before _ s = true := fun w h => atoms_spec (ws := .code yX12_hillLineHere cX12_hillLineHere 2 (some .boolean) :: wsA) B.pre w (List.mem_cons_of_mem _ h)
  have hown : s.vm.findClass RX12 = some m.cls := findClass_of_methodNamed B.named
  subst hsz
  have hLA : LA (dm L s.heap.size) L := ⟨hL, fun a h => Or.inl h⟩
  have hA : ∀ q : Nat, s.heap.size ≤ q → dm L s.heap.size q := fun q h => Or.inr h
  have hS : va_S (dm L s.heap.size) s.heap s.heap [] := va_S.rf
  have hB : TS D cA L T r ry [(12, 8), (12, 9), (12, 10), (66, 1000)] σ σ ρ s.heap := ⟨hP, hW, FR.rf⟩
  have hl := lv_entry ([.ref h0, .int p1]) (n := 2) (Nat.le_of_ble_eq_true rfl)
  rw [lg_entry_eq]
  generalize (lg_sl ([.ref h0, .int p1]) ++ List.replicate (2 - (lg_sl ([.ref h0, .int p1])).length) Slot.unset).toArray = ls at hl ⊢
  have hl : lv_has ls 2 [(0, .ref h0), (1, .int p1)] := hl
  have w_1 : 0 ≤ (σ h0 8).toInt ∧ (σ h0 8).toInt ≤ 400 := by have z := hB.2.1 h0 mh0 8; rw [th0] at z; exact z
  have w_2 : 0 ≤ (σ h0 1).toInt ∧ (σ h0 1).toInt ≤ 400 := by have z := hB.2.1 h0 mh0 1; rw [th0] at z; exact z
  refine lv_aload_n hx hb dX12_hillLineHere_0 rfl (lv_at hl 0 rfl) ?_
  refine lv_ldc2 (v := 1751739500) hx hb hown (hts _ mw_6_142) dX12_hillLineHere_1 ?_
  refine t_ci (va_runV (As := [.long 1751739500]) (rest := []) ⟨hx, hb, hml, hown, hts⟩ (cz_X12_isWord l D cA L T r hG hLA.1 σ ρ hB.2.1 _ h0 mh0 th0 1751739500 bt hbt mbt tbt) (cV hts mv_X12_isWord mw_6_143 rfl rfl ⟨Nat.le_of_ble_eq_true rfl, Nat.le_of_ble_eq_true rfl⟩) (pV hB.1 hK hN mh0 th0 (show shp cA 12 _ _ _ = .inr (12, Fs12 _ _ _) from rfl) rfl) rfl rfl hl.1 rfl (lv_room (Nat.le_of_ble_eq_true rfl)) dX12_hillLineHere_4 ⟨Nat.le_of_ble_eq_true rfl, Nat.le_of_ble_eq_true rfl⟩) hLA hA hB hS (by decide) (fun x_5 σ_3 ρ_4 H locs hB fσ_3 pσ_3 hS => ?_)
  obtain ⟨g_6, g_7, g_8, g_9⟩ := pσ_3
  have w_10 : 0 ≤ (σ_3 h0 8).toInt ∧ (σ_3 h0 8).toInt ≤ 400 := by have z := hB.2.1 h0 mh0 8; rw [th0] at z; exact z
  obtain ⟨lx_5, ux_5⟩ := g_6
  have k_11 : σ_3 h0 1 = (σ h0 1) := (FR.at fσ_3 th0 (by decide)).trans rfl
  have cq_12 : (σ_3 h0 1).toInt = (σ h0 1).toInt := congrArg Int32.toInt k_11
  refine lv_if_eq (tgt := 16) hx hb dX12_hillLineHere_7 (by decide) (fun c_13 => ?_) (fun c_13 => ?_)
  · skip
    have uc_13 := i_eq (n := 0) (by decide) c_13
    refine lv_aload_n hx hb dX12_hillLineHere_16 rfl (lv_at hl 0 rfl) ?_
    refine t_gr hx hb hts hown hK hG hB mh0 th0 fq_12_7 rfl mw_5_223 dX12_hillLineHere_17 (fun b_14 hb_14 mb_14 tb_14 => ?_)
    refine lv_iconst (v := 0) hx hb dX12_hillLineHere_20 (by decide) ?_
    refine t_aj hx hb hK hB mb_14 tb_14 ai_66 (i_in (by decide) (by decide)) dX12_hillLineHere_21 (fun x_15 ex_15 lx_15 ux_15 => ?_)
    have lx_15 : (-2147483648) ≤ x_15.toInt := lx_15
    have ux_15 : x_15.toInt ≤ 2147483647 := ux_15
    have cx_15 := congrArg Int32.toInt ex_15
    refine lv_if_ne (tgt := 32) hx hb dX12_hillLineHere_22 (by decide) (fun c_16 => ?_) (fun c_16 => ?_)
    · skip
      have uc_16 := i_ne (n := 0) (by decide) c_16
      refine lv_aload_n hx hb dX12_hillLineHere_32 rfl (lv_at hl 0 rfl) ?_
      refine lv_ldc2 (v := 1936683636) hx hb hown (hts _ mw_6_151) dX12_hillLineHere_33 ?_
      refine t_ci (va_runV (As := [.long 1936683636]) (rest := []) ⟨hx, hb, hml, hown, hts⟩ (cz_X12_isWord l D cA L T r hG hLA.1 σ_3 ρ_4 hB.2.1 _ h0 mh0 th0 1936683636 bt hbt mbt tbt) (cV hts mv_X12_isWord mw_6_143 rfl rfl ⟨Nat.le_of_ble_eq_true rfl, Nat.le_of_ble_eq_true rfl⟩) (pV hB.1 hK hN mh0 th0 (show shp cA 12 _ _ _ = .inr (12, Fs12 _ _ _) from rfl) rfl) rfl rfl hl.1 rfl (lv_room (Nat.le_of_ble_eq_true rfl)) dX12_hillLineHere_36 ⟨Nat.le_of_ble_eq_true rfl, Nat.le_of_ble_eq_true rfl⟩) hLA hA hB hS (by decide) (fun x_19 σ_17 ρ_18 H locs hB fσ_17 pσ_17 hS => ?_)
      obtain ⟨g_20, g_21, g_22, g_23⟩ := pσ_17
      have w_24 : 0 ≤ (σ_17 h0 8).toInt ∧ (σ_17 h0 8).toInt ≤ 400 := by have z := hB.2.1 h0 mh0 8; rw [th0] at z; exact z
      obtain ⟨lx_19, ux_19⟩ := g_20
      have k_25 : σ_17 h0 1 = (σ h0 1) := (FR.at fσ_17 th0 (by decide)).trans k_11
      have cq_26 : (σ_17 h0 1).toInt = (σ h0 1).toInt := congrArg Int32.toInt k_25
      refine lv_if_eq (tgt := 48) hx hb dX12_hillLineHere_39 (by decide) (fun c_27 => ?_) (fun c_27 => ?_)
      · skip
        have uc_27 := i_eq (n := 0) (by decide) c_27
        refine lv_aload_n hx hb dX12_hillLineHere_48 rfl (lv_at hl 0 rfl) ?_
        refine lv_ldc2 (v := 1650814564) hx hb hown (hts _ mw_6_152) dX12_hillLineHere_49 ?_
        refine t_ci (va_runV (As := [.long 1650814564]) (rest := []) ⟨hx, hb, hml, hown, hts⟩ (cz_X12_isWord l D cA L T r hG hLA.1 σ_17 ρ_18 hB.2.1 _ h0 mh0 th0 1650814564 bt hbt mbt tbt) (cV hts mv_X12_isWord mw_6_143 rfl rfl ⟨Nat.le_of_ble_eq_true rfl, Nat.le_of_ble_eq_true rfl⟩) (pV hB.1 hK hN mh0 th0 (show shp cA 12 _ _ _ = .inr (12, Fs12 _ _ _) from rfl) rfl) rfl rfl hl.1 rfl (lv_room (Nat.le_of_ble_eq_true rfl)) dX12_hillLineHere_52 ⟨Nat.le_of_ble_eq_true rfl, Nat.le_of_ble_eq_true rfl⟩) hLA hA hB hS (by decide) (fun x_30 σ_28 ρ_29 H locs hB fσ_28 pσ_28 hS => ?_)
        obtain ⟨g_31, g_32, g_33, g_34⟩ := pσ_28
        have w_35 : 0 ≤ (σ_28 h0 8).toInt ∧ (σ_28 h0 8).toInt ≤ 400 := by have z := hB.2.1 h0 mh0 8; rw [th0] at z; exact z
        obtain ⟨lx_30, ux_30⟩ := g_31
        have k_36 : σ_28 h0 1 = (σ h0 1) := (FR.at fσ_28 th0 (by decide)).trans k_25
        have cq_37 : (σ_28 h0 1).toInt = (σ h0 1).toInt := congrArg Int32.toInt k_36
        refine lv_if_eq (tgt := 64) hx hb dX12_hillLineHere_55 (by decide) (fun c_38 => ?_) (fun c_38 => ?_)
        · skip
          have uc_38 := i_eq (n := 0) (by decide) c_38
          refine lv_aload_n hx hb dX12_hillLineHere_64 rfl (lv_at hl 0 rfl) ?_
          refine lv_ldc2 (v := 31641111704529261) hx hb hown (hts _ mw_6_153) dX12_hillLineHere_65 ?_
          refine t_ci (va_runV (As := [.long 31641111704529261]) (rest := []) ⟨hx, hb, hml, hown, hts⟩ (cz_X12_isWord l D cA L T r hG hLA.1 σ_28 ρ_29 hB.2.1 _ h0 mh0 th0 31641111704529261 bt hbt mbt tbt) (cV hts mv_X12_isWord mw_6_143 rfl rfl ⟨Nat.le_of_ble_eq_true rfl, Nat.le_of_ble_eq_true rfl⟩) (pV hB.1 hK hN mh0 th0 (show shp cA 12 _ _ _ = .inr (12, Fs12 _ _ _) from rfl) rfl) rfl rfl hl.1 rfl (lv_room (Nat.le_of_ble_eq_true rfl)) dX12_hillLineHere_68 ⟨Nat.le_of_ble_eq_true rfl, Nat.le_of_ble_eq_true rfl⟩) hLA hA hB hS (by decide) (fun x_41 σ_39 ρ_40 H locs hB fσ_39 pσ_39 hS => ?_)
          obtain ⟨g_42, g_43, g_44, g_45⟩ := pσ_39
          have w_46 : 0 ≤ (σ_39 h0 8).toInt ∧ (σ_39 h0 8).toInt ≤ 400 := by have z := hB.2.1 h0 mh0 8; rw [th0] at z; exact z
          obtain ⟨lx_41, ux_41⟩ := g_42
          have k_47 : σ_39 h0 1 = (σ h0 1) := (FR.at fσ_39 th0 (by decide)).trans k_36
          have cq_48 : (σ_39 h0 1).toInt = (σ h0 1).toInt := congrArg Int32.toInt k_47
          refine lv_if_eq (tgt := 80) hx hb dX12_hillLineHere_71 (by decide) (fun c_49 => ?_) (fun c_49 => ?_)
          · skip
            have uc_49 := i_eq (n := 0) (by decide) c_49
            refine lv_aload_n hx hb dX12_hillLineHere_80 rfl (lv_at hl 0 rfl) ?_
            refine lv_ldc2 (v := 6840691) hx hb hown (hts _ mw_6_154) dX12_hillLineHere_81 ?_
            refine t_ci (va_runV (As := [.long 6840691]) (rest := []) ⟨hx, hb, hml, hown, hts⟩ (cz_X12_isWord l D cA L T r hG hLA.1 σ_39 ρ_40 hB.2.1 _ h0 mh0 th0 6840691 bt hbt mbt tbt) (cV hts mv_X12_isWord mw_6_143 rfl rfl ⟨Nat.le_of_ble_eq_true rfl, Nat.le_of_ble_eq_true rfl⟩) (pV hB.1 hK hN mh0 th0 (show shp cA 12 _ _ _ = .inr (12, Fs12 _ _ _) from rfl) rfl) rfl rfl hl.1 rfl (lv_room (Nat.le_of_ble_eq_true rfl)) dX12_hillLineHere_84 ⟨Nat.le_of_ble_eq_true rfl, Nat.le_of_ble_eq_true rfl⟩) hLA hA hB hS (by decide) (fun x_52 σ_50 ρ_51 H locs hB fσ_50 pσ_50 hS => ?_)
            obtain ⟨g_53, g_54, g_55, g_56⟩ := pσ_50
            have w_57 : 0 ≤ (σ_50 h0 8).toInt ∧ (σ_50 h0 8).toInt ≤ 400 := by have z := hB.2.1 h0 mh0 8; rw [th0] at z; exact z
            obtain ⟨lx_52, ux_52⟩ := g_53
            have k_58 : σ_50 h0 1 = (σ h0 1) := (FR.at fσ_50 th0 (by decide)).trans k_47
            have cq_59 : (σ_50 h0 1).toInt = (σ h0 1).toInt := congrArg Int32.toInt k_58
            refine lv_if_eq (tgt := 97) hx hb dX12_hillLineHere_87 (by decide) (fun c_60 => ?_) (fun c_60 => ?_)
            · skip
              have uc_60 := i_eq (n := 0) (by decide) c_60
              refine lv_aload_n hx hb dX12_hillLineHere_97 rfl (lv_at hl 0 rfl) ?_
              refine t_ci (va_runV (As := []) (rest := []) ⟨hx, hb, hml, hown, hts⟩ (cz_X12_isHeapHere l D cA L T r hG hLA.1 σ_50 ρ_51 hB.2.1 _ h0 mh0 th0 bt hbt mbt tbt b_14 hb_14 mb_14 tb_14) (cV hts mv_X12_isHeapHere mw_6_208 rfl rfl ⟨Nat.le_of_ble_eq_true rfl, Nat.le_of_ble_eq_true rfl⟩) (pV hB.1 hK hN mh0 th0 (show shp cA 12 _ _ _ = .inr (12, Fs12 _ _ _) from rfl) rfl) rfl rfl hl.1 rfl (lv_room (Nat.le_of_ble_eq_true rfl)) dX12_hillLineHere_98 ⟨Nat.le_of_ble_eq_true rfl, Nat.le_of_ble_eq_true rfl⟩) hLA hA hB hS (by decide) (fun x_63 σ_61 ρ_62 H locs hB fσ_61 pσ_61 hS => ?_)
              obtain ⟨g_64, g_65⟩ := pσ_61
              have w_66 : 0 ≤ (σ_61 h0 8).toInt ∧ (σ_61 h0 8).toInt ≤ 400 := by have z := hB.2.1 h0 mh0 8; rw [th0] at z; exact z
              obtain ⟨lx_63, ux_63⟩ := g_64
              have k_67 : σ_61 h0 1 = (σ h0 1) := (FR.at fσ_61 th0 (by decide)).trans k_58
              have cq_68 : (σ_61 h0 1).toInt = (σ h0 1).toInt := congrArg Int32.toInt k_67
              exact W.zret (v := x_63) hx hb hr (n_bool (by omega) (by omega)) (fun t ht hW => ⟨⟨x_63, (σ_61, ρ_62), rfl, ⟨hB.2.1, hB.2.2, ⟨(show 0 ≤ (x_63 : Int32).toInt ∧ (x_63 : Int32).toInt ≤ 1 from ⟨by omega, by omega⟩), (show (σ h0 8).toInt ≤ (σ_61 h0 8).toInt from (by omega))⟩⟩, (show TP D cA L T r σ_61 ρ_62 t.heap from by rw [ht]; exact hB.1)⟩, hS.F ht⟩) hS.2.2 dX12_hillLineHere_101
            · skip
              have uc_60 := i_ne (n := 0) (by decide) c_60
              refine lv_aload_n hx hb dX12_hillLineHere_90 rfl (lv_at hl 0 rfl) ?_
              refine t_ci (va_runV (As := []) (rest := []) ⟨hx, hb, hml, hown, hts⟩ (cz_X12_areThingsHere l D cA L T r hG hLA.1 σ_50 ρ_51 hB.2.1 _ h0 mh0 th0 bt hbt mbt tbt b_14 hb_14 mb_14 tb_14) (cV hts mv_X12_areThingsHere mw_6_200 rfl rfl ⟨Nat.le_of_ble_eq_true rfl, Nat.le_of_ble_eq_true rfl⟩) (pV hB.1 hK hN mh0 th0 (show shp cA 12 _ _ _ = .inr (12, Fs12 _ _ _) from rfl) rfl) rfl rfl hl.1 rfl (lv_room (Nat.le_of_ble_eq_true rfl)) dX12_hillLineHere_91 ⟨Nat.le_of_ble_eq_true rfl, Nat.le_of_ble_eq_true rfl⟩) hLA hA hB hS (by decide) (fun x_71 σ_69 ρ_70 H locs hB fσ_69 pσ_69 hS => ?_)
              obtain ⟨g_72, g_73⟩ := pσ_69
              have w_74 : 0 ≤ (σ_69 h0 8).toInt ∧ (σ_69 h0 8).toInt ≤ 400 := by have z := hB.2.1 h0 mh0 8; rw [th0] at z; exact z
              obtain ⟨lx_71, ux_71⟩ := g_72
              have k_75 : σ_69 h0 1 = (σ h0 1) := (FR.at fσ_69 th0 (by decide)).trans k_58
              have cq_76 : (σ_69 h0 1).toInt = (σ h0 1).toInt := congrArg Int32.toInt k_75
              refine lv_goto (tgt := 101) hx hb dX12_hillLineHere_94 (by decide) ?_
              exact W.zret (v := x_71) hx hb hr (n_bool (by omega) (by omega)) (fun t ht hW => ⟨⟨x_71, (σ_69, ρ_70), rfl, ⟨hB.2.1, hB.2.2, ⟨(show 0 ≤ (x_71 : Int32).toInt ∧ (x_71 : Int32).toInt ≤ 1 from ⟨by omega, by omega⟩), (show (σ h0 8).toInt ≤ (σ_69 h0 8).toInt from (by omega))⟩⟩, (show TP D cA L T r σ_69 ρ_70 t.heap from by rw [ht]; exact hB.1)⟩, hS.F ht⟩) hS.2.2 dX12_hillLineHere_101
          · skip
            have uc_49 := i_ne (n := 0) (by decide) c_49
            refine lv_aload_n hx hb dX12_hillLineHere_74 rfl (lv_at hl 0 rfl) ?_
            refine lv_iload_n hx hb dX12_hillLineHere_75 rfl (lv_at hl 1 rfl) ?_
            refine t_ci (va_runV (As := [.int p1]) (rest := []) ⟨hx, hb, hml, hown, hts⟩ (cz_X12_isPilgrimHere l D cA L T r hG hLA.1 σ_39 ρ_40 hB.2.1 _ h0 mh0 th0 p1 bt hbt mbt tbt b_14 hb_14 mb_14 tb_14 (by first | omega | decide) (by first | omega | decide)) (cV hts mv_X12_isPilgrimHere mw_6_196 rfl rfl ⟨Nat.le_of_ble_eq_true rfl, Nat.le_of_ble_eq_true rfl⟩) (pV hB.1 hK hN mh0 th0 (show shp cA 12 _ _ _ = .inr (12, Fs12 _ _ _) from rfl) rfl) rfl rfl hl.1 rfl (lv_room (Nat.le_of_ble_eq_true rfl)) dX12_hillLineHere_76 ⟨Nat.le_of_ble_eq_true rfl, Nat.le_of_ble_eq_true rfl⟩) hLA hA hB hS (by decide) (fun x_79 σ_77 ρ_78 H locs hB fσ_77 pσ_77 hS => ?_)
            obtain ⟨g_80, g_81⟩ := pσ_77
            have w_82 : 0 ≤ (σ_77 h0 8).toInt ∧ (σ_77 h0 8).toInt ≤ 400 := by have z := hB.2.1 h0 mh0 8; rw [th0] at z; exact z
            obtain ⟨lx_79, ux_79⟩ := g_80
            have k_83 : σ_77 h0 1 = (σ h0 1) := (FR.at fσ_77 th0 (by decide)).trans k_47
            have cq_84 : (σ_77 h0 1).toInt = (σ h0 1).toInt := congrArg Int32.toInt k_83
            exact W.zret (v := x_79) hx hb hr (n_bool (by omega) (by omega)) (fun t ht hW => ⟨⟨x_79, (σ_77, ρ_78), rfl, ⟨hB.2.1, hB.2.2, ⟨(show 0 ≤ (x_79 : Int32).toInt ∧ (x_79 : Int32).toInt ≤ 1 from ⟨by omega, by omega⟩), (show (σ h0 8).toInt ≤ (σ_77 h0 8).toInt from (by omega))⟩⟩, (show TP D cA L T r σ_77 ρ_78 t.heap from by rw [ht]; exact hB.1)⟩, hS.F ht⟩) hS.2.2 dX12_hillLineHere_79
        · skip
          have uc_38 := i_ne (n := 0) (by decide) c_38
          refine lv_aload_n hx hb dX12_hillLineHere_58 rfl (lv_at hl 0 rfl) ?_
          refine lv_iload_n hx hb dX12_hillLineHere_59 rfl (lv_at hl 1 rfl) ?_
          refine t_ci (va_runV (As := [.int p1]) (rest := []) ⟨hx, hb, hml, hown, hts⟩ (cz_X12_isBendHere l D cA L T r hG hLA.1 σ_28 ρ_29 hB.2.1 _ h0 mh0 th0 p1 bt hbt mbt tbt b_14 hb_14 mb_14 tb_14 (by first | omega | decide) (by first | omega | decide)) (cV hts mv_X12_isBendHere mw_6_192 rfl rfl ⟨Nat.le_of_ble_eq_true rfl, Nat.le_of_ble_eq_true rfl⟩) (pV hB.1 hK hN mh0 th0 (show shp cA 12 _ _ _ = .inr (12, Fs12 _ _ _) from rfl) rfl) rfl rfl hl.1 rfl (lv_room (Nat.le_of_ble_eq_true rfl)) dX12_hillLineHere_60 ⟨Nat.le_of_ble_eq_true rfl, Nat.le_of_ble_eq_true rfl⟩) hLA hA hB hS (by decide) (fun x_87 σ_85 ρ_86 H locs hB fσ_85 pσ_85 hS => ?_)
          obtain ⟨g_88, g_89⟩ := pσ_85
          have w_90 : 0 ≤ (σ_85 h0 8).toInt ∧ (σ_85 h0 8).toInt ≤ 400 := by have z := hB.2.1 h0 mh0 8; rw [th0] at z; exact z
          obtain ⟨lx_87, ux_87⟩ := g_88
          have k_91 : σ_85 h0 1 = (σ h0 1) := (FR.at fσ_85 th0 (by decide)).trans k_36
          have cq_92 : (σ_85 h0 1).toInt = (σ h0 1).toInt := congrArg Int32.toInt k_91
          exact W.zret (v := x_87) hx hb hr (n_bool (by omega) (by omega)) (fun t ht hW => ⟨⟨x_87, (σ_85, ρ_86), rfl, ⟨hB.2.1, hB.2.2, ⟨(show 0 ≤ (x_87 : Int32).toInt ∧ (x_87 : Int32).toInt ≤ 1 from ⟨by omega, by omega⟩), (show (σ h0 8).toInt ≤ (σ_85 h0 8).toInt from (by omega))⟩⟩, (show TP D cA L T r σ_85 ρ_86 t.heap from by rw [ht]; exact hB.1)⟩, hS.F ht⟩) hS.2.2 dX12_hillLineHere_63
      · skip
        have uc_27 := i_ne (n := 0) (by decide) c_27
        refine lv_aload_n hx hb dX12_hillLineHere_42 rfl (lv_at hl 0 rfl) ?_
        refine lv_iload_n hx hb dX12_hillLineHere_43 rfl (lv_at hl 1 rfl) ?_
        refine t_ci (va_runV (As := [.int p1]) (rest := []) ⟨hx, hb, hml, hown, hts⟩ (cz_X12_isSortHere l D cA L T r hG hLA.1 σ_17 ρ_18 hB.2.1 _ h0 mh0 th0 p1 bt hbt mbt tbt b_14 hb_14 mb_14 tb_14 (by first | omega | decide) (by first | omega | decide)) (cV hts mv_X12_isSortHere mw_6_188 rfl rfl ⟨Nat.le_of_ble_eq_true rfl, Nat.le_of_ble_eq_true rfl⟩) (pV hB.1 hK hN mh0 th0 (show shp cA 12 _ _ _ = .inr (12, Fs12 _ _ _) from rfl) rfl) rfl rfl hl.1 rfl (lv_room (Nat.le_of_ble_eq_true rfl)) dX12_hillLineHere_44 ⟨Nat.le_of_ble_eq_true rfl, Nat.le_of_ble_eq_true rfl⟩) hLA hA hB hS (by decide) (fun x_95 σ_93 ρ_94 H locs hB fσ_93 pσ_93 hS => ?_)
        obtain ⟨g_96, g_97⟩ := pσ_93
        have w_98 : 0 ≤ (σ_93 h0 8).toInt ∧ (σ_93 h0 8).toInt ≤ 400 := by have z := hB.2.1 h0 mh0 8; rw [th0] at z; exact z
        obtain ⟨lx_95, ux_95⟩ := g_96
        have k_99 : σ_93 h0 1 = (σ h0 1) := (FR.at fσ_93 th0 (by decide)).trans k_25
        have cq_100 : (σ_93 h0 1).toInt = (σ h0 1).toInt := congrArg Int32.toInt k_99
        exact W.zret (v := x_95) hx hb hr (n_bool (by omega) (by omega)) (fun t ht hW => ⟨⟨x_95, (σ_93, ρ_94), rfl, ⟨hB.2.1, hB.2.2, ⟨(show 0 ≤ (x_95 : Int32).toInt ∧ (x_95 : Int32).toInt ≤ 1 from ⟨by omega, by omega⟩), (show (σ h0 8).toInt ≤ (σ_93 h0 8).toInt from (by omega))⟩⟩, (show TP D cA L T r σ_93 ρ_94 t.heap from by rw [ht]; exact hB.1)⟩, hS.F ht⟩) hS.2.2 dX12_hillLineHere_47
    · skip
      have uc_16 := i_eq (n := 0) (by decide) c_16
      refine lv_aload_n hx hb dX12_hillLineHere_25 rfl (lv_at hl 0 rfl) ?_
      refine lv_iconst (v := 4) hx hb dX12_hillLineHere_26 (by decide) ?_
      refine lv_iload_n hx hb dX12_hillLineHere_27 rfl (lv_at hl 1 rfl) ?_
      refine t_ci (va_runV (As := [.int 4, .int p1]) (rest := []) ⟨hx, hb, hml, hown, hts⟩ (cy_X12_fails l D cA L T r hG hLA.1 σ_3 ρ_4 hB.2.1 _ h0 mh0 th0 4 p1 (by first | omega | decide) (by first | omega | decide) (by first | omega | decide) (by first | omega | decide)) (cV hts mv_X12_fails mw_6_157 rfl rfl ⟨Nat.le_of_ble_eq_true rfl, Nat.le_of_ble_eq_true rfl⟩) (pV hB.1 hK hN mh0 th0 (show shp cA 12 _ _ _ = .inr (12, Fs12 _ _ _) from rfl) rfl) rfl rfl hl.1 rfl (lv_room (Nat.le_of_ble_eq_true rfl)) dX12_hillLineHere_28 ⟨Nat.le_of_ble_eq_true rfl, Nat.le_of_ble_eq_true rfl⟩) hLA hA hB hS (by decide) (fun x_103 σ_101 ρ_102 H locs hB fσ_101 pσ_101 hS => ?_)
      subst pσ_101
      have k_104 : σ_101 h0 8 = (σ_3 h0 8) := (FR.at fσ_101 th0 (by decide)).trans rfl
      have cq_105 : (σ_101 h0 8).toInt = (σ_3 h0 8).toInt := congrArg Int32.toInt k_104
      have k_106 : σ_101 h0 1 = (σ h0 1) := (FR.at fσ_101 th0 (by decide)).trans k_11
      have cq_107 : (σ_101 h0 1).toInt = (σ h0 1).toInt := congrArg Int32.toInt k_106
      exact W.zret (v := 0) hx hb hr rfl (fun t ht hW => ⟨⟨0, (σ_101, ρ_102), rfl, ⟨hB.2.1, hB.2.2, ⟨(show 0 ≤ (0 : Int32).toInt ∧ (0 : Int32).toInt ≤ 1 from ⟨by decide, by decide⟩), (show (σ h0 8).toInt ≤ (σ_101 h0 8).toInt from (by rw [k_104]; omega))⟩⟩, (show TP D cA L T r σ_101 ρ_102 t.heap from by rw [ht]; exact hB.1)⟩, hS.F ht⟩) hS.2.2 dX12_hillLineHere_31
  · skip
    have uc_13 := i_ne (n := 0) (by decide) c_13
    refine lv_aload_n hx hb dX12_hillLineHere_10 rfl (lv_at hl 0 rfl) ?_
    refine lv_iload_n hx hb dX12_hillLineHere_11 rfl (lv_at hl 1 rfl) ?_
    obtain ⟨b_108, hb_108, mb_108, tb_108⟩ := hG h0 mh0 7 _ (by rw [th0]; rfl)
    refine t_ci (va_runV (As := [.int p1]) (rest := []) ⟨hx, hb, hml, hown, hts⟩ (cz_X12_isHillHere l D cA L T r hG hLA.1 σ_3 ρ_4 hB.2.1 _ h0 mh0 th0 p1 bt hbt mbt tbt b_108 hb_108 mb_108 tb_108 (by first | omega | decide) (by first | omega | decide)) (cV hts mv_X12_isHillHere mw_6_165 rfl rfl ⟨Nat.le_of_ble_eq_true rfl, Nat.le_of_ble_eq_true rfl⟩) (pV hB.1 hK hN mh0 th0 (show shp cA 12 _ _ _ = .inr (12, Fs12 _ _ _) from rfl) rfl) rfl rfl hl.1 rfl (lv_room (Nat.le_of_ble_eq_true rfl)) dX12_hillLineHere_12 ⟨Nat.le_of_ble_eq_true rfl, Nat.le_of_ble_eq_true rfl⟩) hLA hA hB hS (by decide) (fun x_111 σ_109 ρ_110 H locs hB fσ_109 pσ_109 hS => ?_)
    obtain ⟨g_112, g_113⟩ := pσ_109
    have w_114 : 0 ≤ (σ_109 h0 8).toInt ∧ (σ_109 h0 8).toInt ≤ 400 := by have z := hB.2.1 h0 mh0 8; rw [th0] at z; exact z
    obtain ⟨lx_111, ux_111⟩ := g_112
    have k_115 : σ_109 h0 1 = (σ h0 1) := (FR.at fσ_109 th0 (by decide)).trans k_11
    have cq_116 : (σ_109 h0 1).toInt = (σ h0 1).toInt := congrArg Int32.toInt k_115
    exact W.zret (v := x_111) hx hb hr (n_bool (by omega) (by omega)) (fun t ht hW => ⟨⟨x_111, (σ_109, ρ_110), rfl, ⟨hB.2.1, hB.2.2, ⟨(show 0 ≤ (x_111 : Int32).toInt ∧ (x_111 : Int32).toInt ≤ 1 from ⟨by omega, by omega⟩), (show (σ h0 8).toInt ≤ (σ_109 h0 8).toInt from (by omega))⟩⟩, (show TP D cA L T r σ_109 ρ_110 t.heap from by rw [ht]; exact hB.1)⟩, hS.F ht⟩) hS.2.2 dX12_hillLineHere_15
theorem mw_6_140 : (.instanceMethod yX12_isHillWord : Cond) ∈ wsA := wsA_t (List.mem_append_right _ (List.mem_append_right _ (List.mem_append_right _ (List.mem_append_right _ (List.mem_append_right _ (List.mem_append_left _ (List.mem_of_getElem? (l := tables_1_6) (i := 140) rfl))))))) rfl
theorem mp_3_14 : (.selects RX12 yX12_isHillWord yX12_isHillWord : Cond) ∈ wsA := wsA_p (q := (yX12_isHillWord, 44)) (List.mem_append_right _ (List.mem_append_right _ (List.mem_append_left _ (List.mem_of_getElem? (l := lw_privs_3) (i := 14) rfl))))
theorem mw_6_141 : (.code yX12_isHillWord cX12_isHillWord 2 (some .boolean) : Cond) ∈ wsA := wsA_t (List.mem_append_right _ (List.mem_append_right _ (List.mem_append_right _ (List.mem_append_right _ (List.mem_append_right _ (List.mem_append_left _ (List.mem_of_getElem? (l := tables_1_6) (i := 141) rfl))))))) rfl
theorem mw_6_138 : (.methodLink RX12 259 yX12_isHillWord : Cond) ∈ wsA := wsA_t (List.mem_append_right _ (List.mem_append_right _ (List.mem_append_right _ (List.mem_append_right _ (List.mem_append_right _ (List.mem_append_left _ (List.mem_of_getElem? (l := tables_1_6) (i := 138) rfl))))))) rfl
theorem mw_6_163 : (.instanceMethod yX12_hillLineHere : Cond) ∈ wsA := wsA_t (List.mem_append_right _ (List.mem_append_right _ (List.mem_append_right _ (List.mem_append_right _ (List.mem_append_right _ (List.mem_append_left _ (List.mem_of_getElem? (l := tables_1_6) (i := 163) rfl))))))) rfl
theorem mp_4_2 : (.selects RX12 yX12_hillLineHere yX12_hillLineHere : Cond) ∈ wsA := wsA_p (q := (yX12_hillLineHere, 44)) (List.mem_append_right _ (List.mem_append_right _ (List.mem_append_right _ (List.mem_append_left _ (List.mem_of_getElem? (l := lw_privs_4) (i := 2) rfl)))))
theorem mw_6_164 : (.code yX12_hillLineHere cX12_hillLineHere 2 (some .boolean) : Cond) ∈ wsA := wsA_t (List.mem_append_right _ (List.mem_append_right _ (List.mem_append_right _ (List.mem_append_right _ (List.mem_append_right _ (List.mem_append_left _ (List.mem_of_getElem? (l := tables_1_6) (i := 164) rfl))))))) rfl
theorem mw_6_161 : (.methodLink RX12 267 yX12_hillLineHere : Cond) ∈ wsA := wsA_t (List.mem_append_right _ (List.mem_append_right _ (List.mem_append_right _ (List.mem_append_right _ (List.mem_append_right _ (List.mem_append_left _ (List.mem_of_getElem? (l := tables_1_6) (i := 161) rfl))))))) rfl
theorem dX12_clauseHere_19 : decode cX12_clauseHere 19 = .ok (.iconst 1, 1) := by decide +kernel
theorem dX12_clauseHere_20 : decode cX12_clauseHere 20 = .ok (.goto 4, 3) := by decide +kernel
theorem dX12_clauseHere_29 : decode cX12_clauseHere 29 = .ok (.aload_n 0, 1) := by decide +kernel
theorem dX12_clauseHere_30 : decode cX12_clauseHere 30 = .ok (.invokevirtual 259, 3) := by decide +kernel
theorem dX12_clauseHere_33 : decode cX12_clauseHere 33 = .ok (.ifCond .ne 23, 3) := by decide +kernel
theorem dX12_clauseHere_64 : decode cX12_clauseHere 64 = .ok (.bipush 40, 2) := by decide +kernel
theorem dX12_clauseHere_66 : decode cX12_clauseHere 66 = .ok (.goto 5, 3) := by decide +kernel
theorem dX12_clauseHere_95 : decode cX12_clauseHere 95 = .ok (.aload_n 0, 1) := by decide +kernel
theorem dX12_clauseHere_96 : decode cX12_clauseHere 96 = .ok (.iload_n 1, 1) := by decide +kernel
theorem dX12_clauseHere_97 : decode cX12_clauseHere 97 = .ok (.invokevirtual 267, 3) := by decide +kernel
theorem dX12_clauseHere_100 : decode cX12_clauseHere 100 = .ok (.goto 7, 3) := by decide +kernel
theorem dX12_clauseHere_36 : decode cX12_clauseHere 36 = .ok (.goto 13, 3) := by decide +kernel
theorem mv_X12_isHillWord : MV RX12 yX12_isHillWord cX12_isHillWord 2 (some .boolean) 0 := ⟨mw_6_140, mp_3_14, mw_1_13, mw_6_141, ⟨rfl, by decide, by decide, by decide +kernel⟩⟩
theorem mv_X12_hillLineHere : MV RX12 yX12_hillLineHere cX12_hillLineHere 2 (some .boolean) 1 := ⟨mw_6_163, mp_4_2, mw_1_13, mw_6_164, ⟨rfl, by decide, by decide, by decide +kernel⟩⟩
set_option maxHeartbeats 4000000 in
set_option maxRecDepth 100000 in
theorem cz_X12_clauseHere_h (l : Launch) (D : va_G) (cA : Nat → ClassId) (L : List Nat) (T : Nat → Nat) (r : Rg) (hG : GR L T r) (hL : L.Nodup) (σ : Sg) (ρ : Lg) (hW : WT L ry T σ) (sz : Nat) (h0 : Nat) (mh0 : h0 ∈ L) (th0 : T h0 = 12) (bt : Nat) (hbt : r h0 0 = some bt) (mbt : bt ∈ L) (tbt : T bt = 61) (k0 : σ h0 11 = 6) : Met l yX12_clauseHere (.code yX12_clauseHere cX12_clauseHere 3 (some .boolean) :: wsA) ({ frames := 5, cells := 0, slots := 0, locals := 116 }) (PR D cA L T r σ ρ sz [.ref h0]) (QI D cA L T r ry [(12, 8), (12, 9), (12, 10), (12, 14), (66, 1000)] σ sz (fun x σ1 => (0 ≤ x.toInt ∧ x.toInt ≤ 1) ∧ ((σ h0 8).toInt ≤ (σ1 h0 8).toInt))) 0 0 (dm L sz) := by
  refine Met.ofW (cc := cX12_clauseHere) (maxL := 3) (ret := (some .boolean)) (by decide) rfl ?_
  intro p e s m args below meth c s₁ B hml hv
  obtain ⟨rfl, hsz, hP, hK, hN⟩ := hv
  have hx := B.exec
  have hb := B.bytes
  have hr := B.returns
  have hts : ∀ w ∈ wsA, w.before _ s = true := fun w h => atoms_spec (ws := .code yX12_clauseHere cX12_clauseHere 3 (some .boolean) :: wsA) B.pre w (List.mem_cons_of_mem _ h)
  have hown : s.vm.findClass RX12 = some m.cls := findClass_of_methodNamed B.named
  subst hsz
  have hLA : LA (dm L s.heap.size) L := ⟨hL, fun a h => Or.inl h⟩
  have hA : ∀ q : Nat, s.heap.size ≤ q → dm L s.heap.size q := fun q h => Or.inr h
  have hS : va_S (dm L s.heap.size) s.heap s.heap [] := va_S.rf
  have hB : TS D cA L T r ry [(12, 8), (12, 9), (12, 10), (12, 14), (66, 1000)] σ σ ρ s.heap := ⟨hP, hW, FR.rf⟩
  have hl := lv_entry ([.ref h0]) (n := 3) (Nat.le_of_ble_eq_true rfl)
  rw [lg_entry_eq]
  generalize (lg_sl ([.ref h0]) ++ List.replicate (3 - (lg_sl ([.ref h0])).length) Slot.unset).toArray = ls at hl ⊢
  have hl : lv_has ls 3 [(0, .ref h0)] := hl
  have w_1 : 0 ≤ (σ h0 8).toInt ∧ (σ h0 8).toInt ≤ 400 := by have z := hB.2.1 h0 mh0 8; rw [th0] at z; exact z
  have w_2 : 0 ≤ (σ h0 1).toInt ∧ (σ h0 1).toInt ≤ 400 := by have z := hB.2.1 h0 mh0 1; rw [th0] at z; exact z
  refine lv_aload_n hx hb dX12_clauseHere_0 rfl (lv_at hl 0 rfl) ?_
  refine t_ci (va_runV (As := []) (rest := []) ⟨hx, hb, hml, hown, hts⟩ (cz_X12_see l D cA L T r hG hLA.1 σ ρ hB.2.1 _ h0 mh0 th0 bt hbt mbt tbt) (cV hts mv_X12_see mw_6_134 rfl rfl ⟨Nat.le_of_ble_eq_true rfl, Nat.le_of_ble_eq_true rfl⟩) (pV hB.1 hK hN mh0 th0 (show shp cA 12 _ _ _ = .inr (12, Fs12 _ _ _) from rfl) rfl) rfl rfl hl.1 rfl (lv_room (Nat.le_of_ble_eq_true rfl)) dX12_clauseHere_1 ⟨Nat.le_of_ble_eq_true rfl, Nat.le_of_ble_eq_true rfl⟩) hLA hA hB hS (by decide) (fun x_5 σ_3 ρ_4 H locs hB fσ_3 pσ_3 hS => ?_)
  obtain ⟨g_6, g_7, g_8, g_9⟩ := pσ_3
  have w_10 : 0 ≤ (σ_3 h0 8).toInt ∧ (σ_3 h0 8).toInt ≤ 400 := by have z := hB.2.1 h0 mh0 8; rw [th0] at z; exact z
  obtain ⟨lx_5, ux_5⟩ := g_6
  have k_11 : σ_3 h0 1 = (σ h0 1) := (FR.at fσ_3 th0 (by decide)).trans rfl
  have cq_12 : (σ_3 h0 1).toInt = (σ h0 1).toInt := congrArg Int32.toInt k_11
  refine lv_pop hx hb dX12_clauseHere_4 rfl ?_
  refine lv_aload_n hx hb dX12_clauseHere_5 rfl (lv_at hl 0 rfl) ?_
  refine t_gv hx hb hts hown hK hB mh0 th0 fi_12_8 rfl mw_5_224 dX12_clauseHere_6 ?_
  refine lv_istore_n (lv' := [(1, .int (σ_3 h0 8)), (0, .ref h0)]) hx hb dX12_clauseHere_9 rfl hl (by decide) rfl (fun ls hl => ?_)
  refine lv_aload_n hx hb dX12_clauseHere_10 rfl (lv_at hl 1 rfl) ?_
  have k_13 : σ_3 h0 11 = 6 := (FR.at fσ_3 th0 (by decide)).trans k0
  refine t_gv hx hb hts hown hK hB mh0 th0 fi_12_11 k_13 mw_5_227 dX12_clauseHere_11 ?_
  refine lv_bipush (v := 6) hx hb dX12_clauseHere_14 (by decide) ?_
  refine lv_icmp_ne (tgt := 23) hx hb dX12_clauseHere_16 (by decide) (fun c9 => absurd (by decide) c9) (fun _ => ?_)
  refine lv_iconst (v := 1) hx hb dX12_clauseHere_19 (by decide) ?_
  refine lv_goto (tgt := 24) hx hb dX12_clauseHere_20 (by decide) ?_
  refine lv_istore_n (lv' := [(2, .int 1), (1, .int (σ_3 h0 8)), (0, .ref h0)]) hx hb dX12_clauseHere_24 rfl hl (by decide) rfl (fun ls hl => ?_)
  refine lv_iload_n hx hb dX12_clauseHere_25 rfl (lv_at hl 0 rfl) ?_
  refine lv_if_eq (tgt := 39) hx hb dX12_clauseHere_26 (by decide) (fun c9 => absurd c9 (by decide)) (fun _ => ?_)
  refine lv_aload_n hx hb dX12_clauseHere_29 rfl (lv_at hl 2 rfl) ?_
  refine t_ci (va_runV (As := []) (rest := []) ⟨hx, hb, hml, hown, hts⟩ (cy_X12_isHillWord l D cA L T r hG hLA.1 σ_3 ρ_4 hB.2.1 _ h0 mh0 th0) (cV hts mv_X12_isHillWord mw_6_138 rfl rfl ⟨Nat.le_of_ble_eq_true rfl, Nat.le_of_ble_eq_true rfl⟩) (pV hB.1 hK hN mh0 th0 (show shp cA 12 _ _ _ = .inr (12, Fs12 _ _ _) from rfl) rfl) rfl rfl hl.1 rfl (lv_room (Nat.le_of_ble_eq_true rfl)) dX12_clauseHere_30 ⟨Nat.le_of_ble_eq_true rfl, Nat.le_of_ble_eq_true rfl⟩) hLA hA hB hS (by decide) (fun x_16 σ_14 ρ_15 H locs hB fσ_14 pσ_14 hS => ?_)
  obtain ⟨g_17, g_18⟩ := pσ_14
  have w_19 : 0 ≤ (σ_14 h0 8).toInt ∧ (σ_14 h0 8).toInt ≤ 400 := by have z := hB.2.1 h0 mh0 8; rw [th0] at z; exact z
  obtain ⟨lx_16, ux_16⟩ := g_17
  have k_20 : σ_14 h0 1 = (σ h0 1) := (FR.at fσ_14 th0 (by decide)).trans k_11
  have cq_21 : (σ_14 h0 1).toInt = (σ h0 1).toInt := congrArg Int32.toInt k_20
  refine lv_if_ne (tgt := 56) hx hb dX12_clauseHere_33 (by decide) (fun c_22 => ?_) (fun c_22 => ?_)
  · skip
    have uc_22 := i_ne (n := 0) (by decide) c_22
    refine lv_aload_n hx hb dX12_clauseHere_56 rfl (lv_at hl 2 rfl) ?_
    refine t_gi hx hb hts hown hK hB mh0 th0 fi_12_14 rfl mw_5_230 dX12_clauseHere_57 (fun x_23 ex_23 lx_23 ux_23 => ?_)
    have cx_23 := congrArg Int32.toInt ex_23
    refine lv_iload_n hx hb dX12_clauseHere_60 rfl (lv_at hl 0 rfl) ?_
    refine lv_if_eq (tgt := 69) hx hb dX12_clauseHere_61 (by decide) (fun c9 => absurd c9 (by decide)) (fun _ => ?_)
    refine lv_bipush (v := 40) hx hb dX12_clauseHere_64 (by decide) ?_
    refine lv_goto (tgt := 71) hx hb dX12_clauseHere_66 (by decide) ?_
    refine lv_icmp_ne (tgt := 81) hx hb dX12_clauseHere_71 (by decide) (fun c_24 => ?_) (fun c_24 => ?_)
    · skip
      have uc_24 := i_ne (n := 40) (by decide) c_24
      refine lv_aload_n hx hb dX12_clauseHere_81 rfl (lv_at hl 2 rfl) ?_
      refine lv_dup hx hb dX12_clauseHere_82 rfl ?_
      refine t_gv hx hb hts hown hK hB mh0 th0 fi_12_14 ex_23.symm mw_5_230 dX12_clauseHere_83 ?_
      refine lv_iconst (v := 1) hx hb dX12_clauseHere_86 (by decide) ?_
      refine lv_iadd hx hb dX12_clauseHere_87 ?_
      refine lv_topi (fun x_25 ex_25 => ?_)
      try have vx_25 := b_add (rfl : x_23.toInt = _) (by decide : (1 : Int32).toInt = 1) ex_25 (by omega) (by omega)
      refine t_pi hx hb hts hown hK hLA hB hS mh0 th0 fi_12_14 rfl rfl rfl (i_lo _) (i_hi _) (Or.inl (by decide)) mw_5_230 dX12_clauseHere_88 (fun H locs σ_26 eσ_26 hB hS => ?_)
      have k_27 : σ_26 h0 14 = x_25 := by rw [eσ_26]; exact up2_same _ _ _ _
      refine lv_iload_n hx hb dX12_clauseHere_91 rfl (lv_at hl 0 rfl) ?_
      refine lv_if_eq (tgt := 103) hx hb dX12_clauseHere_92 (by decide) (fun c9 => absurd c9 (by decide)) (fun _ => ?_)
      refine lv_aload_n hx hb dX12_clauseHere_95 rfl (lv_at hl 2 rfl) ?_
      refine lv_iload_n hx hb dX12_clauseHere_96 rfl (lv_at hl 1 rfl) ?_
      have k_28 : σ_26 h0 8 = (σ_14 h0 8) := by rw [eσ_26, up2_nej _ _ (by decide)]
      have cq_29 : (σ_26 h0 8).toInt = (σ_14 h0 8).toInt := congrArg Int32.toInt k_28
      have k_30 : σ_26 h0 1 = (σ h0 1) := by rw [eσ_26, up2_nej _ _ (by decide)]; exact k_20
      have cq_31 : (σ_26 h0 1).toInt = (σ h0 1).toInt := congrArg Int32.toInt k_30
      refine t_ci (va_runV (As := [.int (σ_3 h0 8)]) (rest := []) ⟨hx, hb, hml, hown, hts⟩ (cz_X12_hillLineHere l D cA L T r hG hLA.1 σ_26 ρ_15 hB.2.1 _ h0 mh0 th0 ((σ_3 h0 8)) bt hbt mbt tbt (by first | omega | decide) (by first | omega | decide)) (cV hts mv_X12_hillLineHere mw_6_161 rfl rfl ⟨Nat.le_of_ble_eq_true rfl, Nat.le_of_ble_eq_true rfl⟩) (pV hB.1 hK hN mh0 th0 (show shp cA 12 _ _ _ = .inr (12, Fs12 _ _ _) from rfl) rfl) rfl rfl hl.1 rfl (lv_room (Nat.le_of_ble_eq_true rfl)) dX12_clauseHere_97 ⟨Nat.le_of_ble_eq_true rfl, Nat.le_of_ble_eq_true rfl⟩) hLA hA hB hS (by decide) (fun x_34 σ_32 ρ_33 H locs hB fσ_32 pσ_32 hS => ?_)
      obtain ⟨g_35, g_36⟩ := pσ_32
      have w_37 : 0 ≤ (σ_32 h0 8).toInt ∧ (σ_32 h0 8).toInt ≤ 400 := by have z := hB.2.1 h0 mh0 8; rw [th0] at z; exact z
      obtain ⟨lx_34, ux_34⟩ := g_35
      have k_38 : σ_32 h0 1 = (σ h0 1) := (FR.at fσ_32 th0 (by decide)).trans k_30
      have cq_39 : (σ_32 h0 1).toInt = (σ h0 1).toInt := congrArg Int32.toInt k_38
      refine lv_goto (tgt := 107) hx hb dX12_clauseHere_100 (by decide) ?_
      exact W.zret (v := x_34) hx hb hr (n_bool (by omega) (by omega)) (fun t ht hW => ⟨⟨x_34, (σ_32, ρ_33), rfl, ⟨hB.2.1, hB.2.2, ⟨(show 0 ≤ (x_34 : Int32).toInt ∧ (x_34 : Int32).toInt ≤ 1 from ⟨by omega, by omega⟩), (show (σ h0 8).toInt ≤ (σ_32 h0 8).toInt from (by omega))⟩⟩, (show TP D cA L T r σ_32 ρ_33 t.heap from by rw [ht]; exact hB.1)⟩, hS.F ht⟩) hS.2.2 dX12_clauseHere_107
    · skip
      have uc_24 := i_eq (n := 40) (by decide) c_24
      refine lv_aload_n hx hb dX12_clauseHere_74 rfl (lv_at hl 2 rfl) ?_
      refine lv_iconst (v := 4) hx hb dX12_clauseHere_75 (by decide) ?_
      refine lv_iload_n hx hb dX12_clauseHere_76 rfl (lv_at hl 1 rfl) ?_
      refine t_ci (va_runV (As := [.int 4, .int (σ_3 h0 8)]) (rest := []) ⟨hx, hb, hml, hown, hts⟩ (cy_X12_fails l D cA L T r hG hLA.1 σ_14 ρ_15 hB.2.1 _ h0 mh0 th0 4 ((σ_3 h0 8)) (by first | omega | decide) (by first | omega | decide) (by first | omega | decide) (by first | omega | decide)) (cV hts mv_X12_fails mw_6_157 rfl rfl ⟨Nat.le_of_ble_eq_true rfl, Nat.le_of_ble_eq_true rfl⟩) (pV hB.1 hK hN mh0 th0 (show shp cA 12 _ _ _ = .inr (12, Fs12 _ _ _) from rfl) rfl) rfl rfl hl.1 rfl (lv_room (Nat.le_of_ble_eq_true rfl)) dX12_clauseHere_77 ⟨Nat.le_of_ble_eq_true rfl, Nat.le_of_ble_eq_true rfl⟩) hLA hA hB hS (by decide) (fun x_42 σ_40 ρ_41 H locs hB fσ_40 pσ_40 hS => ?_)
      subst pσ_40
      have k_43 : σ_40 h0 8 = (σ_14 h0 8) := (FR.at fσ_40 th0 (by decide)).trans rfl
      have cq_44 : (σ_40 h0 8).toInt = (σ_14 h0 8).toInt := congrArg Int32.toInt k_43
      have k_45 : σ_40 h0 1 = (σ h0 1) := (FR.at fσ_40 th0 (by decide)).trans k_20
      have cq_46 : (σ_40 h0 1).toInt = (σ h0 1).toInt := congrArg Int32.toInt k_45
      exact W.zret (v := 0) hx hb hr rfl (fun t ht hW => ⟨⟨0, (σ_40, ρ_41), rfl, ⟨hB.2.1, hB.2.2, ⟨(show 0 ≤ (0 : Int32).toInt ∧ (0 : Int32).toInt ≤ 1 from ⟨by decide, by decide⟩), (show (σ h0 8).toInt ≤ (σ_40 h0 8).toInt from (by rw [k_43]; omega))⟩⟩, (show TP D cA L T r σ_40 ρ_41 t.heap from by rw [ht]; exact hB.1)⟩, hS.F ht⟩) hS.2.2 dX12_clauseHere_80
  · skip
    have uc_22 := i_eq (n := 0) (by decide) c_22
    refine lv_goto (tgt := 49) hx hb dX12_clauseHere_36 (by decide) ?_
    refine lv_aload_n hx hb dX12_clauseHere_49 rfl (lv_at hl 2 rfl) ?_
    refine lv_iconst (v := 0) hx hb dX12_clauseHere_50 (by decide) ?_
    refine lv_iload_n hx hb dX12_clauseHere_51 rfl (lv_at hl 1 rfl) ?_
    refine t_ci (va_runV (As := [.int 0, .int (σ_3 h0 8)]) (rest := []) ⟨hx, hb, hml, hown, hts⟩ (cy_X12_fails l D cA L T r hG hLA.1 σ_14 ρ_15 hB.2.1 _ h0 mh0 th0 0 ((σ_3 h0 8)) (by first | omega | decide) (by first | omega | decide) (by first | omega | decide) (by first | omega | decide)) (cV hts mv_X12_fails mw_6_157 rfl rfl ⟨Nat.le_of_ble_eq_true rfl, Nat.le_of_ble_eq_true rfl⟩) (pV hB.1 hK hN mh0 th0 (show shp cA 12 _ _ _ = .inr (12, Fs12 _ _ _) from rfl) rfl) rfl rfl hl.1 rfl (lv_room (Nat.le_of_ble_eq_true rfl)) dX12_clauseHere_52 ⟨Nat.le_of_ble_eq_true rfl, Nat.le_of_ble_eq_true rfl⟩) hLA hA hB hS (by decide) (fun x_49 σ_47 ρ_48 H locs hB fσ_47 pσ_47 hS => ?_)
    subst pσ_47
    have k_50 : σ_47 h0 8 = (σ_14 h0 8) := (FR.at fσ_47 th0 (by decide)).trans rfl
    have cq_51 : (σ_47 h0 8).toInt = (σ_14 h0 8).toInt := congrArg Int32.toInt k_50
    have k_52 : σ_47 h0 1 = (σ h0 1) := (FR.at fσ_47 th0 (by decide)).trans k_20
    have cq_53 : (σ_47 h0 1).toInt = (σ h0 1).toInt := congrArg Int32.toInt k_52
    exact W.zret (v := 0) hx hb hr rfl (fun t ht hW => ⟨⟨0, (σ_47, ρ_48), rfl, ⟨hB.2.1, hB.2.2, ⟨(show 0 ≤ (0 : Int32).toInt ∧ (0 : Int32).toInt ≤ 1 from ⟨by decide, by decide⟩), (show (σ h0 8).toInt ≤ (σ_47 h0 8).toInt from (by rw [k_50]; omega))⟩⟩, (show TP D cA L T r σ_47 ρ_48 t.heap from by rw [ht]; exact hB.1)⟩, hS.F ht⟩) hS.2.2 dX12_clauseHere_55
set_option maxHeartbeats 4000000 in
set_option maxRecDepth 100000 in
theorem cz_X12_readsAll_h (l : Launch) (D : va_G) (cA : Nat → ClassId) (L : List Nat) (T : Nat → Nat) (r : Rg) (hG : GR L T r) (hL : L.Nodup) (σ : Sg) (ρ : Lg) (hW : WT L ry T σ) (sz : Nat) (h0 : Nat) (mh0 : h0 ∈ L) (th0 : T h0 = 12) (bt : Nat) (hbt : r h0 0 = some bt) (mbt : bt ∈ L) (tbt : T bt = 61) (k0 : σ h0 11 = 6) : Met l yX12_readsAll (.code yX12_readsAll cX12_readsAll 2 (some .boolean) :: wsA) ({ frames := 6, cells := 0, slots := 0, locals := 138 }) (PR D cA L T r σ ρ sz [.ref h0]) (QI D cA L T r ry [(12, 1), (12, 8), (12, 9), (12, 10), (12, 12), (12, 14), (63, 1000), (66, 1000)] σ sz (fun x σ1 => (0 ≤ x.toInt ∧ x.toInt ≤ 1))) 0 0 (dm L sz) := by
  refine Met.ofW (cc := cX12_readsAll) (maxL := 2) (ret := (some .boolean)) (by decide) rfl ?_
  intro p e s m args below meth c s₁ B hml hv
  obtain ⟨rfl, hsz, hP, hK, hN⟩ := hv
  have hx := B.exec
  have hb := B.bytes
  have hr := B.returns
  have hts : ∀ w ∈ wsA, w.before _ s = true := fun w h => atoms_spec (ws := .code yX12_readsAll cX12_readsAll 2 (some .boolean) :: wsA) B.pre w (List.mem_cons_of_mem _ h)
  have hown : s.vm.findClass RX12 = some m.cls := findClass_of_methodNamed B.named
  subst hsz
  have hLA : LA (dm L s.heap.size) L := ⟨hL, fun a h => Or.inl h⟩
  have hA : ∀ q : Nat, s.heap.size ≤ q → dm L s.heap.size q := fun q h => Or.inr h
  have hS : va_S (dm L s.heap.size) s.heap s.heap [] := va_S.rf
  have hB : TS D cA L T r ry [(12, 1), (12, 8), (12, 9), (12, 10), (12, 12), (12, 14), (63, 1000), (66, 1000)] σ σ ρ s.heap := ⟨hP, hW, FR.rf⟩
  have hl := lv_entry ([.ref h0]) (n := 2) (Nat.le_of_ble_eq_true rfl)
  rw [lg_entry_eq]
  generalize (lg_sl ([.ref h0]) ++ List.replicate (2 - (lg_sl ([.ref h0])).length) Slot.unset).toArray = ls at hl ⊢
  have hl : lv_has ls 2 [(0, .ref h0)] := hl
  have w_1 : 0 ≤ (σ h0 8).toInt ∧ (σ h0 8).toInt ≤ 400 := by have z := hB.2.1 h0 mh0 8; rw [th0] at z; exact z
  have w_2 : 0 ≤ (σ h0 1).toInt ∧ (σ h0 1).toInt ≤ 400 := by have z := hB.2.1 h0 mh0 1; rw [th0] at z; exact z
  refine lv_aload_n hx hb dX12_readsAll_0 rfl (lv_at hl 0 rfl) ?_
  refine t_gr hx hb hts hown hK hG hB mh0 th0 fq_12_4 rfl mw_5_220 dX12_readsAll_1 (fun b_3 hb_3 mb_3 tb_3 => ?_)
  refine lv_aload_n hx hb dX12_readsAll_4 rfl (lv_at hl 0 rfl) ?_
  refine t_gv hx hb hts hown hK hB mh0 th0 fi_12_11 k0 mw_5_227 dX12_readsAll_5 ?_
  refine lv_iconst (v := 0) hx hb dX12_readsAll_8 (by decide) ?_
  refine t_si hx hb hK hLA hB hS mb_3 tb_3 ai_63 (i_in (by decide) (by decide)) (show 0 ≤ (0 : Int32).toInt by decide) (show (0 : Int32).toInt ≤ 400 by decide) (Or.inr (by decide)) dX12_readsAll_9 (fun H locs σ_4 eσ_4 hB hS => ?_)
  have k_5 : σ_4 b_3 6 = 0 := by rw [eσ_4]; exact up2_same _ _ _ _
  refine lv_aload_n hx hb dX12_readsAll_10 rfl (lv_at hl 0 rfl) ?_
  refine lv_iconst (v := 0) hx hb dX12_readsAll_11 (by decide) ?_
  refine t_pi hx hb hts hown hK hLA hB hS mh0 th0 fi_12_14 rfl rfl rfl (i_lo _) (i_hi _) (Or.inl (by decide)) mw_5_230 dX12_readsAll_12 (fun H locs σ_6 eσ_6 hB hS => ?_)
  have k_7 : σ_6 h0 14 = 0 := by rw [eσ_6]; exact up2_same _ _ _ _
  refine lv_aload_n hx hb dX12_readsAll_15 rfl (lv_at hl 0 rfl) ?_
  refine lv_iconst (v := 0) hx hb dX12_readsAll_16 (by decide) ?_
  refine t_pi hx hb hts hown hK hLA hB hS mh0 th0 fi_12_8 rfl rfl rfl (by decide) (by decide) (Or.inl (by decide)) mw_5_224 dX12_readsAll_17 (fun H locs σ_8 eσ_8 hB hS => ?_)
  have k_9 : σ_8 h0 8 = 0 := by rw [eσ_8]; exact up2_same _ _ _ _
  refine lv_aload_n hx hb dX12_readsAll_20 rfl (lv_at hl 0 rfl) ?_
  refine lv_iconst (v := 0) hx hb dX12_readsAll_21 (by decide) ?_
  refine t_pi hx hb hts hown hK hLA hB hS mh0 th0 fi_12_9 rfl rfl rfl (i_lo _) (i_hi _) (Or.inl (by decide)) mw_5_225 dX12_readsAll_22 (fun H locs σ_10 eσ_10 hB hS => ?_)
  have k_11 : σ_10 h0 9 = 0 := by rw [eσ_10]; exact up2_same _ _ _ _
  refine lv_aload_n hx hb dX12_readsAll_25 rfl (lv_at hl 0 rfl) ?_
  refine lv_iconst (v := 0) hx hb dX12_readsAll_26 (by decide) ?_
  refine t_pi hx hb hts hown hK hLA hB hS mh0 th0 fi_12_12 rfl rfl rfl (by decide) (by decide) (Or.inl (by decide)) mw_5_228 dX12_readsAll_27 (fun H locs σ_12 eσ_12 hB hS => ?_)
  have k_13 : σ_12 h0 12 = 0 := by rw [eσ_12]; exact up2_same _ _ _ _
  refine lv_aload_n hx hb dX12_readsAll_30 rfl (lv_at hl 0 rfl) ?_
  have k_14 : σ_10 h0 8 = 0 := by rw [eσ_10, up2_nej _ _ (by decide)]; exact k_9
  have k_15 : σ_12 h0 8 = 0 := by rw [eσ_12, up2_nej _ _ (by decide)]; exact k_14
  have cq_16 : (σ_12 h0 8).toInt = 0 := by rw [k_15]; decide
  have k_17 : σ_4 h0 1 = (σ h0 1) := by rw [eσ_4, up2_nej _ _ (by decide)]
  have k_18 : σ_6 h0 1 = (σ h0 1) := by rw [eσ_6, up2_nej _ _ (by decide)]; exact k_17
  have k_19 : σ_8 h0 1 = (σ h0 1) := by rw [eσ_8, up2_nej _ _ (by decide)]; exact k_18
  have k_20 : σ_10 h0 1 = (σ h0 1) := by rw [eσ_10, up2_nej _ _ (by decide)]; exact k_19
  have k_21 : σ_12 h0 1 = (σ h0 1) := by rw [eσ_12, up2_nej _ _ (by decide)]; exact k_20
  have cq_22 : (σ_12 h0 1).toInt = (σ h0 1).toInt := congrArg Int32.toInt k_21
  have k_23 : σ_4 h0 11 = 6 := by rw [eσ_4, up2_nej _ _ (by decide)]; exact k0
  have k_24 : σ_6 h0 11 = 6 := by rw [eσ_6, up2_nej _ _ (by decide)]; exact k_23
  have k_25 : σ_8 h0 11 = 6 := by rw [eσ_8, up2_nej _ _ (by decide)]; exact k_24
  have k_26 : σ_10 h0 11 = 6 := by rw [eσ_10, up2_nej _ _ (by decide)]; exact k_25
  have k_27 : σ_12 h0 11 = 6 := by rw [eσ_12, up2_nej _ _ (by decide)]; exact k_26
  refine t_ci (va_runV (As := []) (rest := []) ⟨hx, hb, hml, hown, hts⟩ (cz_X12_clauseHere_h l D cA L T r hG hLA.1 σ_12 ρ hB.2.1 _ h0 mh0 th0 bt hbt mbt tbt k_27) (cV hts mv_X12_clauseHere mw_6_130 rfl rfl ⟨Nat.le_of_ble_eq_true rfl, Nat.le_of_ble_eq_true rfl⟩) (pV hB.1 hK hN mh0 th0 (show shp cA 12 _ _ _ = .inr (12, Fs12 _ _ _) from rfl) rfl) rfl rfl hl.1 rfl (lv_room (Nat.le_of_ble_eq_true rfl)) dX12_readsAll_31 ⟨Nat.le_of_ble_eq_true rfl, Nat.le_of_ble_eq_true rfl⟩) hLA hA hB hS (by decide) (fun x_30 σ_28 ρ_29 H locs hB fσ_28 pσ_28 hS => ?_)
  obtain ⟨g_31, g_32⟩ := pσ_28
  have w_33 : 0 ≤ (σ_28 h0 8).toInt ∧ (σ_28 h0 8).toInt ≤ 400 := by have z := hB.2.1 h0 mh0 8; rw [th0] at z; exact z
  obtain ⟨lx_30, ux_30⟩ := g_31
  have k_34 : σ_28 h0 1 = (σ h0 1) := (FR.at fσ_28 th0 (by decide)).trans k_21
  have cq_35 : (σ_28 h0 1).toInt = (σ h0 1).toInt := congrArg Int32.toInt k_34
  refine lv_istore_n (lv' := [(1, .int x_30), (0, .ref h0)]) hx hb dX12_readsAll_34 rfl hl (by decide) rfl (fun ls hl => ?_)
  have k_36 : σ_28 h0 11 = 6 := (FR.at fσ_28 th0 (by decide)).trans k_27
  have k_37 : σ_6 b_3 6 = 0 := by rw [eσ_6, up2_nej _ _ (by decide)]; exact k_5
  have k_38 : σ_8 b_3 6 = 0 := by rw [eσ_8, up2_nej _ _ (by decide)]; exact k_37
  have k_39 : σ_10 b_3 6 = 0 := by rw [eσ_10, up2_nej _ _ (by decide)]; exact k_38
  have k_40 : σ_12 b_3 6 = 0 := by rw [eσ_12, up2_nej _ _ (by decide)]; exact k_39
  have k_41 : σ_28 b_3 6 = 0 := (FR.at fσ_28 tb_3 (by decide)).trans k_40
  have k_42 : σ_28 h0 12 = 0 := (FR.at fσ_28 th0 (by decide)).trans k_13
  refine w_loop (α := Int32 × Sg × Lg) (fun (i_43, σ_44, ρ_45) H locs ls => 0 ≤ i_43.toInt ∧ i_43.toInt ≤ 1 ∧ σ_44 h0 11 = 6 ∧ σ_44 h0 1 = (σ h0 1) ∧ σ_44 b_3 6 = 0 ∧ σ_44 h0 12 = 0 ∧ TS D cA L T r ry [(12, 1), (12, 8), (12, 9), (12, 10), (12, 12), (12, 14), (63, 1000), (66, 1000)] σ σ_44 ρ_45 H ∧ va_S (dm L s.heap.size) s.heap H locs ∧ lv_has ls 2 [(1, .int i_43), (0, .ref h0)]) (fun (i_43, σ_44, ρ_45) => (400 - (σ_44 h0 8).toInt).toNat) ?_ ⟨x_30, σ_28, ρ_29⟩ ⟨(by omega), (by omega), k_36, k_34, k_41, k_42, hB, hS, lv_sub hl [0, 1] rfl⟩
  rintro ⟨i_43, σ_44, ρ_45⟩ H locs ls ⟨li_43, ui_43, k_47, k_48, k_49, k_50, hB, hS, hl⟩ ih_46
  have w_51 : 0 ≤ (σ_44 h0 8).toInt ∧ (σ_44 h0 8).toInt ≤ 400 := by have z := hB.2.1 h0 mh0 8; rw [th0] at z; exact z
  have cq_52 := congrArg Int32.toInt k_48
  refine lv_iload_n hx hb dX12_readsAll_35 rfl (lv_at hl 0 rfl) ?_
  refine lv_if_eq (tgt := 66) hx hb dX12_readsAll_36 (by decide) (fun c_53 => ?_) (fun c_53 => ?_)
  · skip
    have uc_53 := i_eq (n := 0) (by decide) c_53
    refine lv_iload_n hx hb dX12_readsAll_66 rfl (lv_at hl 0 rfl) ?_
    refine lv_if_eq (tgt := 88) hx hb dX12_readsAll_67 (by decide) (fun c_54 => ?_) (fun c_54 => ?_)
    · skip
      have uc_54 := i_eq (n := 0) (by decide) c_54
      refine lv_aload_n hx hb dX12_readsAll_88 rfl (lv_at hl 1 rfl) ?_
      refine lv_iconst (v := 0) hx hb dX12_readsAll_89 (by decide) ?_
      refine t_pi hx hb hts hown hK hLA hB hS mh0 th0 fi_12_1 rfl rfl rfl (by decide) (by decide) (Or.inl (by decide)) mw_5_217 dX12_readsAll_90 (fun H locs σ_55 eσ_55 hB hS => ?_)
      have k_56 : σ_55 h0 1 = 0 := by rw [eσ_55]; exact up2_same _ _ _ _
      refine lv_aload_n hx hb dX12_readsAll_93 rfl (lv_at hl 1 rfl) ?_
      refine t_gi hx hb hts hown hK hB mh0 th0 fi_12_9 rfl mw_5_225 dX12_readsAll_94 (fun x_57 ex_57 lx_57 ux_57 => ?_)
      have cx_57 := congrArg Int32.toInt ex_57
      refine lv_if_ne (tgt := 104) hx hb dX12_readsAll_97 (by decide) (fun c_58 => ?_) (fun c_58 => ?_)
      · skip
        have uc_58 := i_ne (n := 0) (by decide) c_58
        refine lv_iconst (v := 0) hx hb dX12_readsAll_104 (by decide) ?_
        exact W.zret (v := 0) hx hb hr rfl (fun t ht hW => ⟨⟨0, (σ_55, ρ_45), rfl, ⟨hB.2.1, hB.2.2, (show 0 ≤ (0 : Int32).toInt ∧ (0 : Int32).toInt ≤ 1 from ⟨by decide, by decide⟩)⟩, (show TP D cA L T r σ_55 ρ_45 t.heap from by rw [ht]; exact hB.1)⟩, hS.F ht⟩) hS.2.2 dX12_readsAll_105
      · skip
        have uc_58 := i_eq (n := 0) (by decide) c_58
        refine lv_iconst (v := 1) hx hb dX12_readsAll_100 (by decide) ?_
        refine lv_goto (tgt := 105) hx hb dX12_readsAll_101 (by decide) ?_
        exact W.zret (v := 1) hx hb hr rfl (fun t ht hW => ⟨⟨1, (σ_55, ρ_45), rfl, ⟨hB.2.1, hB.2.2, (show 0 ≤ (1 : Int32).toInt ∧ (1 : Int32).toInt ≤ 1 from ⟨by decide, by decide⟩)⟩, (show TP D cA L T r σ_55 ρ_45 t.heap from by rw [ht]; exact hB.1)⟩, hS.F ht⟩) hS.2.2 dX12_readsAll_105
    · skip
      have uc_54 := i_ne (n := 0) (by decide) c_54
      exfalso; omega
  · skip
    have uc_53 := i_ne (n := 0) (by decide) c_53
    refine lv_aload_n hx hb dX12_readsAll_39 rfl (lv_at hl 1 rfl) ?_
    have cq_59 : (σ_44 h0 1).toInt = (σ h0 1).toInt := congrArg Int32.toInt k_48
    refine t_ci (va_runV (As := []) (rest := []) ⟨hx, hb, hml, hown, hts⟩ (cz_X12_see l D cA L T r hG hLA.1 σ_44 ρ_45 hB.2.1 _ h0 mh0 th0 bt hbt mbt tbt) (cV hts mv_X12_see mw_6_134 rfl rfl ⟨Nat.le_of_ble_eq_true rfl, Nat.le_of_ble_eq_true rfl⟩) (pV hB.1 hK hN mh0 th0 (show shp cA 12 _ _ _ = .inr (12, Fs12 _ _ _) from rfl) rfl) rfl rfl hl.1 rfl (lv_room (Nat.le_of_ble_eq_true rfl)) dX12_readsAll_40 ⟨Nat.le_of_ble_eq_true rfl, Nat.le_of_ble_eq_true rfl⟩) hLA hA hB hS (by decide) (fun x_62 σ_60 ρ_61 H locs hB fσ_60 pσ_60 hS => ?_)
    obtain ⟨g_63, g_64, g_65, g_66⟩ := pσ_60
    have w_67 : 0 ≤ (σ_60 h0 8).toInt ∧ (σ_60 h0 8).toInt ≤ 400 := by have z := hB.2.1 h0 mh0 8; rw [th0] at z; exact z
    obtain ⟨lx_62, ux_62⟩ := g_63
    have k_68 : σ_60 h0 1 = (σ h0 1) := (FR.at fσ_60 th0 (by decide)).trans k_48
    have cq_69 : (σ_60 h0 1).toInt = (σ h0 1).toInt := congrArg Int32.toInt k_68
    refine lv_bipush (v := 59) hx hb dX12_readsAll_43 (by decide) ?_
    refine lv_icmp_ne (tgt := 66) hx hb dX12_readsAll_45 (by decide) (fun c_70 => ?_) (fun c_70 => ?_)
    · skip
      have uc_70 := i_ne (n := 59) (by decide) c_70
      refine lv_iload_n hx hb dX12_readsAll_66 rfl (lv_at hl 0 rfl) ?_
      refine lv_if_eq (tgt := 88) hx hb dX12_readsAll_67 (by decide) (fun c_71 => ?_) (fun c_71 => ?_)
      · skip
        have uc_71 := i_eq (n := 0) (by decide) c_71
        exfalso; omega
      · skip
        have uc_71 := i_ne (n := 0) (by decide) c_71
        refine lv_aload_n hx hb dX12_readsAll_70 rfl (lv_at hl 1 rfl) ?_
        refine t_ci (va_runV (As := []) (rest := []) ⟨hx, hb, hml, hown, hts⟩ (cz_X12_see l D cA L T r hG hLA.1 σ_60 ρ_61 hB.2.1 _ h0 mh0 th0 bt hbt mbt tbt) (cV hts mv_X12_see mw_6_134 rfl rfl ⟨Nat.le_of_ble_eq_true rfl, Nat.le_of_ble_eq_true rfl⟩) (pV hB.1 hK hN mh0 th0 (show shp cA 12 _ _ _ = .inr (12, Fs12 _ _ _) from rfl) rfl) rfl rfl hl.1 rfl (lv_room (Nat.le_of_ble_eq_true rfl)) dX12_readsAll_71 ⟨Nat.le_of_ble_eq_true rfl, Nat.le_of_ble_eq_true rfl⟩) hLA hA hB hS (by decide) (fun x_74 σ_72 ρ_73 H locs hB fσ_72 pσ_72 hS => ?_)
        obtain ⟨g_75, g_76, g_77, g_78⟩ := pσ_72
        have w_79 : 0 ≤ (σ_72 h0 8).toInt ∧ (σ_72 h0 8).toInt ≤ 400 := by have z := hB.2.1 h0 mh0 8; rw [th0] at z; exact z
        obtain ⟨lx_74, ux_74⟩ := g_75
        have k_80 : σ_72 h0 1 = (σ h0 1) := (FR.at fσ_72 th0 (by decide)).trans k_68
        have cq_81 : (σ_72 h0 1).toInt = (σ h0 1).toInt := congrArg Int32.toInt k_80
        refine lv_iconst (v := (-1)) hx hb dX12_readsAll_74 (by decide) ?_
        refine lv_icmp_eq (tgt := 88) hx hb dX12_readsAll_75 (by decide) (fun c_82 => ?_) (fun c_82 => ?_)
        · skip
          have uc_82 := i_eq (n := (-1)) (by decide) c_82
          refine lv_aload_n hx hb dX12_readsAll_88 rfl (lv_at hl 1 rfl) ?_
          refine lv_iconst (v := 0) hx hb dX12_readsAll_89 (by decide) ?_
          refine t_pi hx hb hts hown hK hLA hB hS mh0 th0 fi_12_1 rfl rfl rfl (by decide) (by decide) (Or.inl (by decide)) mw_5_217 dX12_readsAll_90 (fun H locs σ_83 eσ_83 hB hS => ?_)
          have k_84 : σ_83 h0 1 = 0 := by rw [eσ_83]; exact up2_same _ _ _ _
          refine lv_aload_n hx hb dX12_readsAll_93 rfl (lv_at hl 1 rfl) ?_
          refine t_gi hx hb hts hown hK hB mh0 th0 fi_12_9 rfl mw_5_225 dX12_readsAll_94 (fun x_85 ex_85 lx_85 ux_85 => ?_)
          have cx_85 := congrArg Int32.toInt ex_85
          refine lv_if_ne (tgt := 104) hx hb dX12_readsAll_97 (by decide) (fun c_86 => ?_) (fun c_86 => ?_)
          · skip
            have uc_86 := i_ne (n := 0) (by decide) c_86
            refine lv_iconst (v := 0) hx hb dX12_readsAll_104 (by decide) ?_
            exact W.zret (v := 0) hx hb hr rfl (fun t ht hW => ⟨⟨0, (σ_83, ρ_73), rfl, ⟨hB.2.1, hB.2.2, (show 0 ≤ (0 : Int32).toInt ∧ (0 : Int32).toInt ≤ 1 from ⟨by decide, by decide⟩)⟩, (show TP D cA L T r σ_83 ρ_73 t.heap from by rw [ht]; exact hB.1)⟩, hS.F ht⟩) hS.2.2 dX12_readsAll_105
          · skip
            have uc_86 := i_eq (n := 0) (by decide) c_86
            refine lv_iconst (v := 1) hx hb dX12_readsAll_100 (by decide) ?_
            refine lv_goto (tgt := 105) hx hb dX12_readsAll_101 (by decide) ?_
            exact W.zret (v := 1) hx hb hr rfl (fun t ht hW => ⟨⟨1, (σ_83, ρ_73), rfl, ⟨hB.2.1, hB.2.2, (show 0 ≤ (1 : Int32).toInt ∧ (1 : Int32).toInt ≤ 1 from ⟨by decide, by decide⟩)⟩, (show TP D cA L T r σ_83 ρ_73 t.heap from by rw [ht]; exact hB.1)⟩, hS.F ht⟩) hS.2.2 dX12_readsAll_105
        · skip
          have uc_82 := i_ne (n := (-1)) (by decide) c_82
          refine lv_aload_n hx hb dX12_readsAll_78 rfl (lv_at hl 1 rfl) ?_
          refine lv_iconst (v := 0) hx hb dX12_readsAll_79 (by decide) ?_
          refine lv_aload_n hx hb dX12_readsAll_80 rfl (lv_at hl 1 rfl) ?_
          refine t_gv hx hb hts hown hK hB mh0 th0 fi_12_8 rfl mw_5_224 dX12_readsAll_81 ?_
          refine t_ci (va_runV (As := [.int 0, .int (σ_72 h0 8)]) (rest := []) ⟨hx, hb, hml, hown, hts⟩ (cy_X12_fails l D cA L T r hG hLA.1 σ_72 ρ_73 hB.2.1 _ h0 mh0 th0 0 ((σ_72 h0 8)) (by first | omega | decide) (by first | omega | decide) (by first | omega | decide) (by first | omega | decide)) (cV hts mv_X12_fails mw_6_157 rfl rfl ⟨Nat.le_of_ble_eq_true rfl, Nat.le_of_ble_eq_true rfl⟩) (pV hB.1 hK hN mh0 th0 (show shp cA 12 _ _ _ = .inr (12, Fs12 _ _ _) from rfl) rfl) rfl rfl hl.1 rfl (lv_room (Nat.le_of_ble_eq_true rfl)) dX12_readsAll_84 ⟨Nat.le_of_ble_eq_true rfl, Nat.le_of_ble_eq_true rfl⟩) hLA hA hB hS (by decide) (fun x_89 σ_87 ρ_88 H locs hB fσ_87 pσ_87 hS => ?_)
          subst pσ_87
          have k_90 : σ_87 h0 8 = (σ_72 h0 8) := (FR.at fσ_87 th0 (by decide)).trans rfl
          have cq_91 : (σ_87 h0 8).toInt = (σ_72 h0 8).toInt := congrArg Int32.toInt k_90
          have k_92 : σ_87 h0 1 = (σ h0 1) := (FR.at fσ_87 th0 (by decide)).trans k_80
          have cq_93 : (σ_87 h0 1).toInt = (σ h0 1).toInt := congrArg Int32.toInt k_92
          refine lv_pop hx hb dX12_readsAll_87 rfl ?_
          refine lv_aload_n hx hb dX12_readsAll_88 rfl (lv_at hl 1 rfl) ?_
          refine lv_iconst (v := 0) hx hb dX12_readsAll_89 (by decide) ?_
          refine t_pi hx hb hts hown hK hLA hB hS mh0 th0 fi_12_1 rfl rfl rfl (by decide) (by decide) (Or.inl (by decide)) mw_5_217 dX12_readsAll_90 (fun H locs σ_94 eσ_94 hB hS => ?_)
          have k_95 : σ_94 h0 1 = 0 := by rw [eσ_94]; exact up2_same _ _ _ _
          refine lv_aload_n hx hb dX12_readsAll_93 rfl (lv_at hl 1 rfl) ?_
          refine t_gi hx hb hts hown hK hB mh0 th0 fi_12_9 rfl mw_5_225 dX12_readsAll_94 (fun x_96 ex_96 lx_96 ux_96 => ?_)
          have cx_96 := congrArg Int32.toInt ex_96
          refine lv_if_ne (tgt := 104) hx hb dX12_readsAll_97 (by decide) (fun c_97 => ?_) (fun c_97 => ?_)
          · skip
            have uc_97 := i_ne (n := 0) (by decide) c_97
            refine lv_iconst (v := 0) hx hb dX12_readsAll_104 (by decide) ?_
            exact W.zret (v := 0) hx hb hr rfl (fun t ht hW => ⟨⟨0, (σ_94, ρ_88), rfl, ⟨hB.2.1, hB.2.2, (show 0 ≤ (0 : Int32).toInt ∧ (0 : Int32).toInt ≤ 1 from ⟨by decide, by decide⟩)⟩, (show TP D cA L T r σ_94 ρ_88 t.heap from by rw [ht]; exact hB.1)⟩, hS.F ht⟩) hS.2.2 dX12_readsAll_105
          · skip
            have uc_97 := i_eq (n := 0) (by decide) c_97
            refine lv_iconst (v := 1) hx hb dX12_readsAll_100 (by decide) ?_
            refine lv_goto (tgt := 105) hx hb dX12_readsAll_101 (by decide) ?_
            exact W.zret (v := 1) hx hb hr rfl (fun t ht hW => ⟨⟨1, (σ_94, ρ_88), rfl, ⟨hB.2.1, hB.2.2, (show 0 ≤ (1 : Int32).toInt ∧ (1 : Int32).toInt ≤ 1 from ⟨by decide, by decide⟩)⟩, (show TP D cA L T r σ_94 ρ_88 t.heap from by rw [ht]; exact hB.1)⟩, hS.F ht⟩) hS.2.2 dX12_readsAll_105
    · skip
      have uc_70 := i_eq (n := 59) (by decide) c_70
      refine lv_aload_n hx hb dX12_readsAll_48 rfl (lv_at hl 1 rfl) ?_
      refine lv_dup hx hb dX12_readsAll_49 rfl ?_
      refine t_gv hx hb hts hown hK hB mh0 th0 fi_12_8 rfl mw_5_224 dX12_readsAll_50 ?_
      refine lv_iconst (v := 1) hx hb dX12_readsAll_53 (by decide) ?_
      refine lv_iadd hx hb dX12_readsAll_54 ?_
      refine lv_topi (fun x_98 ex_98 => ?_)
      have vx_98 := b_add (rfl : (σ_60 h0 8).toInt = _) (by decide : (1 : Int32).toInt = 1) ex_98 (by omega) (by omega)
      refine t_pi hx hb hts hown hK hLA hB hS mh0 th0 fi_12_8 rfl rfl rfl (by first | omega | (subst_vars; omega)) (by first | omega | (subst_vars; omega)) (Or.inl (by decide)) mw_5_224 dX12_readsAll_55 (fun H locs σ_99 eσ_99 hB hS => ?_)
      have k_100 : σ_99 h0 8 = x_98 := by rw [eσ_99]; exact up2_same _ _ _ _
      refine lv_aload_n hx hb dX12_readsAll_58 rfl (lv_at hl 1 rfl) ?_
      have cq_101 : (σ_99 h0 8).toInt = x_98.toInt := congrArg Int32.toInt k_100
      have k_102 : σ_99 h0 1 = (σ h0 1) := by rw [eσ_99, up2_nej _ _ (by decide)]; exact k_68
      have cq_103 : (σ_99 h0 1).toInt = (σ h0 1).toInt := congrArg Int32.toInt k_102
      have k_104 : σ_60 h0 11 = 6 := (FR.at fσ_60 th0 (by decide)).trans k_47
      have k_105 : σ_99 h0 11 = 6 := by rw [eσ_99, up2_nej _ _ (by decide)]; exact k_104
      refine t_ci (va_runV (As := []) (rest := []) ⟨hx, hb, hml, hown, hts⟩ (cz_X12_clauseHere_h l D cA L T r hG hLA.1 σ_99 ρ_61 hB.2.1 _ h0 mh0 th0 bt hbt mbt tbt k_105) (cV hts mv_X12_clauseHere mw_6_130 rfl rfl ⟨Nat.le_of_ble_eq_true rfl, Nat.le_of_ble_eq_true rfl⟩) (pV hB.1 hK hN mh0 th0 (show shp cA 12 _ _ _ = .inr (12, Fs12 _ _ _) from rfl) rfl) rfl rfl hl.1 rfl (lv_room (Nat.le_of_ble_eq_true rfl)) dX12_readsAll_59 ⟨Nat.le_of_ble_eq_true rfl, Nat.le_of_ble_eq_true rfl⟩) hLA hA hB hS (by decide) (fun x_108 σ_106 ρ_107 H locs hB fσ_106 pσ_106 hS => ?_)
      obtain ⟨g_109, g_110⟩ := pσ_106
      have w_111 : 0 ≤ (σ_106 h0 8).toInt ∧ (σ_106 h0 8).toInt ≤ 400 := by have z := hB.2.1 h0 mh0 8; rw [th0] at z; exact z
      obtain ⟨lx_108, ux_108⟩ := g_109
      have k_112 : σ_106 h0 1 = (σ h0 1) := (FR.at fσ_106 th0 (by decide)).trans k_102
      have cq_113 : (σ_106 h0 1).toInt = (σ h0 1).toInt := congrArg Int32.toInt k_112
      refine lv_istore_n (lv' := [(1, .int x_108), (0, .ref h0)]) hx hb dX12_readsAll_62 rfl hl (by decide) rfl (fun ls hl => ?_)
      refine lv_goto (tgt := 35) hx hb dX12_readsAll_63 (by decide) ?_
      have k_114 : σ_106 h0 11 = 6 := (FR.at fσ_106 th0 (by decide)).trans k_105
      have k_115 : σ_60 b_3 6 = 0 := (FR.at fσ_60 tb_3 (by decide)).trans k_49
      have k_116 : σ_99 b_3 6 = 0 := by rw [eσ_99, up2_nej _ _ (by decide)]; exact k_115
      have k_117 : σ_106 b_3 6 = 0 := (FR.at fσ_106 tb_3 (by decide)).trans k_116
      have k_118 : σ_60 h0 12 = 0 := (FR.at fσ_60 th0 (by decide)).trans k_50
      have k_119 : σ_99 h0 12 = 0 := by rw [eσ_99, up2_nej _ _ (by decide)]; exact k_118
      have k_120 : σ_106 h0 12 = 0 := (FR.at fσ_106 th0 (by decide)).trans k_119
      exact ih_46 ⟨x_108, σ_106, ρ_107⟩ _ _ _ ⟨(by omega), (by omega), k_114, k_112, k_117, k_120, hB, hS, lv_sub hl [0, 1] rfl⟩ (by show (400 - (σ_106 h0 8).toInt).toNat < (400 - (σ_44 h0 8).toInt).toNat; omega)
theorem dX12_hill_0 : decode cX12_hill 0 = .ok (.aload_n 0, 1) := by decide +kernel
theorem dX12_hill_1 : decode cX12_hill 1 = .ok (.bipush 6, 2) := by decide +kernel
theorem dX12_hill_3 : decode cX12_hill 3 = .ok (.putfield 154, 3) := by decide +kernel
theorem dX12_hill_6 : decode cX12_hill 6 = .ok (.iconst 0, 1) := by decide +kernel
theorem dX12_hill_7 : decode cX12_hill 7 = .ok (.istore_n 1, 1) := by decide +kernel
theorem dX12_hill_8 : decode cX12_hill 8 = .ok (.iload_n 1, 1) := by decide +kernel
theorem dX12_hill_9 : decode cX12_hill 9 = .ok (.sipush 165, 3) := by decide +kernel
theorem dX12_hill_12 : decode cX12_hill 12 = .ok (.if_icmp .ge 16, 3) := by decide +kernel
theorem dX12_hill_15 : decode cX12_hill 15 = .ok (.aload_n 0, 1) := by decide +kernel
theorem dX12_hill_16 : decode cX12_hill 16 = .ok (.getfield 26, 3) := by decide +kernel
theorem dX12_hill_19 : decode cX12_hill 19 = .ok (.iload_n 1, 1) := by decide +kernel
theorem dX12_hill_20 : decode cX12_hill 20 = .ok (.iconst 0, 1) := by decide +kernel
theorem dX12_hill_21 : decode cX12_hill 21 = .ok (.iastore, 1) := by decide +kernel
theorem dX12_hill_22 : decode cX12_hill 22 = .ok (.iinc 1 1, 3) := by decide +kernel
theorem dX12_hill_25 : decode cX12_hill 25 = .ok (.goto (-17), 3) := by decide +kernel
theorem dX12_hill_28 : decode cX12_hill 28 = .ok (.aload_n 0, 1) := by decide +kernel
theorem dX12_hill_29 : decode cX12_hill 29 = .ok (.invokevirtual 279, 3) := by decide +kernel
theorem dX12_hill_32 : decode cX12_hill 32 = .ok (.ifCond .ne 11, 3) := by decide +kernel
theorem dX12_hill_43 : decode cX12_hill 43 = .ok (.iconst 0, 1) := by decide +kernel
theorem dX12_hill_44 : decode cX12_hill 44 = .ok (.istore_n 1, 1) := by decide +kernel
theorem dX12_hill_45 : decode cX12_hill 45 = .ok (.iload_n 1, 1) := by decide +kernel
theorem dX12_hill_46 : decode cX12_hill 46 = .ok (.sipush 201, 3) := by decide +kernel
theorem dX12_hill_49 : decode cX12_hill 49 = .ok (.if_icmp .ge 32, 3) := by decide +kernel
theorem dX12_hill_52 : decode cX12_hill 52 = .ok (.aload_n 0, 1) := by decide +kernel
theorem dX12_hill_53 : decode cX12_hill 53 = .ok (.getfield 39, 3) := by decide +kernel
theorem dX12_hill_56 : decode cX12_hill 56 = .ok (.iload_n 1, 1) := by decide +kernel
theorem dX12_hill_57 : decode cX12_hill 57 = .ok (.iload_n 1, 1) := by decide +kernel
theorem dX12_hill_58 : decode cX12_hill 58 = .ok (.sipush 165, 3) := by decide +kernel
theorem dX12_hill_61 : decode cX12_hill 61 = .ok (.if_icmp .ge 12, 3) := by decide +kernel
theorem dX12_hill_73 : decode cX12_hill 73 = .ok (.iconst 0, 1) := by decide +kernel
theorem dX12_hill_74 : decode cX12_hill 74 = .ok (.iastore, 1) := by decide +kernel
theorem dX12_hill_75 : decode cX12_hill 75 = .ok (.iinc 1 1, 3) := by decide +kernel
theorem dX12_hill_78 : decode cX12_hill 78 = .ok (.goto (-33), 3) := by decide +kernel
theorem dX12_hill_64 : decode cX12_hill 64 = .ok (.aload_n 0, 1) := by decide +kernel
theorem dX12_hill_65 : decode cX12_hill 65 = .ok (.getfield 26, 3) := by decide +kernel
theorem dX12_hill_68 : decode cX12_hill 68 = .ok (.iload_n 1, 1) := by decide +kernel
theorem dX12_hill_69 : decode cX12_hill 69 = .ok (.iaload, 1) := by decide +kernel
theorem dX12_hill_70 : decode cX12_hill 70 = .ok (.goto 4, 3) := by decide +kernel
theorem dX12_hill_81 : decode cX12_hill 81 = .ok (.iconst 0, 1) := by decide +kernel
theorem dX12_hill_82 : decode cX12_hill 82 = .ok (.istore_n 1, 1) := by decide +kernel
theorem dX12_hill_83 : decode cX12_hill 83 = .ok (.iload_n 1, 1) := by decide +kernel
theorem dX12_hill_84 : decode cX12_hill 84 = .ok (.bipush 40, 2) := by decide +kernel
theorem dX12_hill_86 : decode cX12_hill 86 = .ok (.if_icmp .ge 27, 3) := by decide +kernel
theorem dX12_hill_89 : decode cX12_hill 89 = .ok (.aload_n 0, 1) := by decide +kernel
theorem dX12_hill_90 : decode cX12_hill 90 = .ok (.getfield 39, 3) := by decide +kernel
theorem dX12_hill_93 : decode cX12_hill 93 = .ok (.bipush 18, 2) := by decide +kernel
theorem dX12_hill_95 : decode cX12_hill 95 = .ok (.iload_n 1, 1) := by decide +kernel
theorem dX12_hill_96 : decode cX12_hill 96 = .ok (.iadd, 1) := by decide +kernel
theorem dX12_hill_97 : decode cX12_hill 97 = .ok (.aload_n 0, 1) := by decide +kernel
theorem dX12_hill_98 : decode cX12_hill 98 = .ok (.getfield 39, 3) := by decide +kernel
theorem dX12_hill_101 : decode cX12_hill 101 = .ok (.bipush 125, 2) := by decide +kernel
theorem dX12_hill_103 : decode cX12_hill 103 = .ok (.iload_n 1, 1) := by decide +kernel
theorem dX12_hill_104 : decode cX12_hill 104 = .ok (.iadd, 1) := by decide +kernel
theorem dX12_hill_105 : decode cX12_hill 105 = .ok (.iaload, 1) := by decide +kernel
theorem dX12_hill_106 : decode cX12_hill 106 = .ok (.iastore, 1) := by decide +kernel
theorem dX12_hill_107 : decode cX12_hill 107 = .ok (.iinc 1 1, 3) := by decide +kernel
theorem dX12_hill_110 : decode cX12_hill 110 = .ok (.goto (-27), 3) := by decide +kernel
theorem dX12_hill_113 : decode cX12_hill 113 = .ok (.aload_n 0, 1) := by decide +kernel
theorem dX12_hill_114 : decode cX12_hill 114 = .ok (.iconst 0, 1) := by decide +kernel
theorem dX12_hill_115 : decode cX12_hill 115 = .ok (.putfield 282, 3) := by decide +kernel
theorem dX12_hill_118 : decode cX12_hill 118 = .ok (.aload_n 0, 1) := by decide +kernel
theorem dX12_hill_119 : decode cX12_hill 119 = .ok (.getfield 39, 3) := by decide +kernel
theorem dX12_hill_122 : decode cX12_hill 122 = .ok (.iconst 2, 1) := by decide +kernel
theorem dX12_hill_123 : decode cX12_hill 123 = .ok (.iaload, 1) := by decide +kernel
theorem dX12_hill_124 : decode cX12_hill 124 = .ok (.ireturn, 1) := by decide +kernel
theorem dX12_hill_35 : decode cX12_hill 35 = .ok (.bipush (-2), 2) := by decide +kernel
theorem dX12_hill_37 : decode cX12_hill 37 = .ok (.aload_n 0, 1) := by decide +kernel
theorem dX12_hill_38 : decode cX12_hill 38 = .ok (.getfield 99, 3) := by decide +kernel
theorem dX12_hill_41 : decode cX12_hill 41 = .ok (.isub, 1) := by decide +kernel
theorem dX12_hill_42 : decode cX12_hill 42 = .ok (.ireturn, 1) := by decide +kernel
set_option maxHeartbeats 4000000 in
set_option maxRecDepth 100000 in
theorem cy_X12_hill (l : Launch) (D : va_G) (cA : Nat → ClassId) (L : List Nat) (T : Nat → Nat) (r : Rg) (hG : GR L T r) (hL : L.Nodup) (σ : Sg) (ρ : Lg) (hW : WT L ry T σ) (sz : Nat) (h0 : Nat) (mh0 : h0 ∈ L) (th0 : T h0 = 12) : Met l yX12_hill (.code yX12_hill cX12_hill 2 (some .int) :: wsA) ({ frames := 7, cells := 0, slots := 0, locals := 159 }) (PR D cA L T r σ ρ sz [.ref h0]) (QI D cA L T r ry [(12, 1), (12, 8), (12, 9), (12, 10), (12, 11), (12, 12), (12, 14), (12, 25), (63, 1000), (66, 1000), (70, 1000)] σ sz (fun x σ1 => True)) 0 0 (dm L sz) := by
  refine Met.ofW (cc := cX12_hill) (maxL := 2) (ret := (some .int)) (by decide) rfl ?_
  intro p e s m args below meth c s₁ B hml hv
  obtain ⟨rfl, hsz, hP, hK, hN⟩ := hv
  have hx := B.exec
  have hb := B.bytes
  have hr := B.returns
  have hts : ∀ w ∈ wsA, w.before _ s = true := fun w h => atoms_spec (ws := .code yX12_hill cX12_hill 2 (some .int) :: wsA) B.pre w (List.mem_cons_of_mem _ h)
  have hown : s.vm.findClass RX12 = some m.cls := findClass_of_methodNamed B.named
  subst hsz
  have hLA : LA (dm L s.heap.size) L := ⟨hL, fun a h => Or.inl h⟩
  have hA : ∀ q : Nat, s.heap.size ≤ q → dm L s.heap.size q := fun q h => Or.inr h
  have hS : va_S (dm L s.heap.size) s.heap s.heap [] := va_S.rf
  have hB : TS D cA L T r ry [(12, 1), (12, 8), (12, 9), (12, 10), (12, 11), (12, 12), (12, 14), (12, 25), (63, 1000), (66, 1000), (70, 1000)] σ σ ρ s.heap := ⟨hP, hW, FR.rf⟩
  have hl := lv_entry ([.ref h0]) (n := 2) (Nat.le_of_ble_eq_true rfl)
  rw [lg_entry_eq]
  generalize (lg_sl ([.ref h0]) ++ List.replicate (2 - (lg_sl ([.ref h0])).length) Slot.unset).toArray = ls at hl ⊢
  have hl : lv_has ls 2 [(0, .ref h0)] := hl
  refine lv_aload_n hx hb dX12_hill_0 rfl (lv_at hl 0 rfl) ?_
  refine lv_bipush (v := 6) hx hb dX12_hill_1 (by decide) ?_
  refine t_pi hx hb hts hown hK hLA hB hS mh0 th0 fi_12_11 rfl rfl rfl (by decide) (by decide) (Or.inl (by decide)) mw_5_227 dX12_hill_3 (fun H locs σ_1 eσ_1 hB hS => ?_)
  have k_2 : σ_1 h0 11 = 6 := by rw [eσ_1]; exact up2_same _ _ _ _
  refine lv_iconst (v := 0) hx hb dX12_hill_6 (by decide) ?_
  refine lv_istore_n (lv' := [(1, .int 0), (0, .ref h0)]) hx hb dX12_hill_7 rfl hl (by decide) rfl (fun ls hl => ?_)
  refine w_loop (α := Int32 × Sg × Lg) (fun (i_3, σ_4, ρ_5) H locs ls => 0 ≤ i_3.toInt ∧ i_3.toInt ≤ 165 ∧ σ_4 h0 11 = 6 ∧ TS D cA L T r ry [(12, 1), (12, 8), (12, 9), (12, 10), (12, 11), (12, 12), (12, 14), (12, 25), (63, 1000), (66, 1000), (70, 1000)] σ σ_4 ρ_5 H ∧ va_S (dm L s.heap.size) s.heap H locs ∧ lv_has ls 2 [(1, .int i_3), (0, .ref h0)]) (fun (i_3, σ_4, ρ_5) => (165 - i_3.toInt).toNat) ?_ ⟨0, σ_1, ρ⟩ ⟨(by decide), (by decide), k_2, hB, hS, lv_sub hl [0, 1] rfl⟩
  rintro ⟨i_3, σ_4, ρ_5⟩ H locs ls ⟨li_3, ui_3, k_7, hB, hS, hl⟩ ih_6
  refine lv_iload_n hx hb dX12_hill_8 rfl (lv_at hl 0 rfl) ?_
  refine lv_sipush (v := 165) hx hb dX12_hill_9 (by decide) ?_
  refine lv_icmp_ge (tgt := 28) hx hb dX12_hill_12 (by decide) (fun c_8 => ?_) (fun c_8 => ?_)
  · skip
    have uc_8 := i_ge (n := 165) (by decide) c_8
    refine lv_aload_n hx hb dX12_hill_28 rfl (lv_at hl 1 rfl) ?_
    obtain ⟨b_9, hb_9, mb_9, tb_9⟩ := hG h0 mh0 0 _ (by rw [th0]; rfl)
    refine t_ci (va_runV (As := []) (rest := []) ⟨hx, hb, hml, hown, hts⟩ (cz_X12_readsAll_h l D cA L T r hG hLA.1 σ_4 ρ_5 hB.2.1 _ h0 mh0 th0 b_9 hb_9 mb_9 tb_9 k_7) (cV hts mv_X12_readsAll mw_6_126 rfl rfl ⟨Nat.le_of_ble_eq_true rfl, Nat.le_of_ble_eq_true rfl⟩) (pV hB.1 hK hN mh0 th0 (show shp cA 12 _ _ _ = .inr (12, Fs12 _ _ _) from rfl) rfl) rfl rfl hl.1 rfl (lv_room (Nat.le_of_ble_eq_true rfl)) dX12_hill_29 ⟨Nat.le_of_ble_eq_true rfl, Nat.le_of_ble_eq_true rfl⟩) hLA hA hB hS (by decide) (fun x_12 σ_10 ρ_11 H locs hB fσ_10 pσ_10 hS => ?_)
    obtain ⟨lx_12, ux_12⟩ := pσ_10
    refine lv_if_ne (tgt := 43) hx hb dX12_hill_32 (by decide) (fun c_13 => ?_) (fun c_13 => ?_)
    · skip
      have uc_13 := i_ne (n := 0) (by decide) c_13
      refine lv_iconst (v := 0) hx hb dX12_hill_43 (by decide) ?_
      refine lv_istore_n (lv' := [(1, .int 0), (0, .ref h0)]) hx hb dX12_hill_44 rfl hl (by decide) rfl (fun ls hl => ?_)
      have k_14 : σ_10 h0 11 = 6 := (FR.at fσ_10 th0 (by decide)).trans k_7
      refine w_loop (α := Int32 × Sg × Lg) (fun (i_15, σ_16, ρ_17) H locs ls => 0 ≤ i_15.toInt ∧ i_15.toInt ≤ 201 ∧ σ_16 h0 11 = 6 ∧ TS D cA L T r ry [(12, 1), (12, 8), (12, 9), (12, 10), (12, 11), (12, 12), (12, 14), (12, 25), (63, 1000), (66, 1000), (70, 1000)] σ σ_16 ρ_17 H ∧ va_S (dm L s.heap.size) s.heap H locs ∧ lv_has ls 2 [(1, .int i_15), (0, .ref h0)]) (fun (i_15, σ_16, ρ_17) => (201 - i_15.toInt).toNat) ?_ ⟨0, σ_10, ρ_11⟩ ⟨(by decide), (by decide), k_14, hB, hS, lv_sub hl [0, 1] rfl⟩
      rintro ⟨i_15, σ_16, ρ_17⟩ H locs ls ⟨li_15, ui_15, k_19, hB, hS, hl⟩ ih_18
      refine lv_iload_n hx hb dX12_hill_45 rfl (lv_at hl 0 rfl) ?_
      refine lv_sipush (v := 201) hx hb dX12_hill_46 (by decide) ?_
      refine lv_icmp_ge (tgt := 81) hx hb dX12_hill_49 (by decide) (fun c_20 => ?_) (fun c_20 => ?_)
      · skip
        have uc_20 := i_ge (n := 201) (by decide) c_20
        refine lv_iconst (v := 0) hx hb dX12_hill_81 (by decide) ?_
        refine lv_istore_n (lv' := [(1, .int 0), (0, .ref h0)]) hx hb dX12_hill_82 rfl hl (by decide) rfl (fun ls hl => ?_)
        refine w_loop (α := Int32 × Sg × Lg) (fun (i_21, σ_22, ρ_23) H locs ls => 0 ≤ i_21.toInt ∧ i_21.toInt ≤ 40 ∧ σ_22 h0 11 = 6 ∧ TS D cA L T r ry [(12, 1), (12, 8), (12, 9), (12, 10), (12, 11), (12, 12), (12, 14), (12, 25), (63, 1000), (66, 1000), (70, 1000)] σ σ_22 ρ_23 H ∧ va_S (dm L s.heap.size) s.heap H locs ∧ lv_has ls 2 [(1, .int i_21), (0, .ref h0)]) (fun (i_21, σ_22, ρ_23) => (40 - i_21.toInt).toNat) ?_ ⟨0, σ_16, ρ_17⟩ ⟨(by decide), (by decide), k_19, hB, hS, lv_sub hl [0, 1] rfl⟩
        rintro ⟨i_21, σ_22, ρ_23⟩ H locs ls ⟨li_21, ui_21, k_25, hB, hS, hl⟩ ih_24
        refine lv_iload_n hx hb dX12_hill_83 rfl (lv_at hl 0 rfl) ?_
        refine lv_bipush (v := 40) hx hb dX12_hill_84 (by decide) ?_
        refine lv_icmp_ge (tgt := 113) hx hb dX12_hill_86 (by decide) (fun c_26 => ?_) (fun c_26 => ?_)
        · skip
          have uc_26 := i_ge (n := 40) (by decide) c_26
          refine lv_aload_n hx hb dX12_hill_113 rfl (lv_at hl 1 rfl) ?_
          refine lv_iconst (v := 0) hx hb dX12_hill_114 (by decide) ?_
          refine t_pi hx hb hts hown hK hLA hB hS mh0 th0 fi_12_25 rfl rfl rfl (by decide) (by decide) (Or.inl (by decide)) mw_6_1 dX12_hill_115 (fun H locs σ_27 eσ_27 hB hS => ?_)
          have k_28 : σ_27 h0 25 = 0 := by rw [eσ_27]; exact up2_same _ _ _ _
          refine lv_aload_n hx hb dX12_hill_118 rfl (lv_at hl 1 rfl) ?_
          refine t_gr hx hb hts hown hK hG hB mh0 th0 fq_12_20 rfl mw_5_236 dX12_hill_119 (fun b_29 hb_29 mb_29 tb_29 => ?_)
          refine lv_iconst (v := 2) hx hb dX12_hill_122 (by decide) ?_
          refine t_aj hx hb hK hB mb_29 tb_29 ai_70 (i_in (by decide) (by decide)) dX12_hill_123 (fun x_30 ex_30 lx_30 ux_30 => ?_)
          have ax_30 := lx_30
          have bx_30 := ux_30
          have lx_30 : 0 ≤ x_30.toInt := lx_30
          have ux_30 : x_30.toInt ≤ 8 := ux_30
          have cx_30 := congrArg Int32.toInt ex_30
          exact W.iret (v := x_30) hx hb hr (fun t ht hW => ⟨⟨x_30, (σ_27, ρ_23), rfl, ⟨hB.2.1, hB.2.2, trivial⟩, (show TP D cA L T r σ_27 ρ_23 t.heap from by rw [ht]; exact hB.1)⟩, hS.F ht⟩) hS.2.2 dX12_hill_124
        · skip
          have uc_26 := i_nge (n := 40) (by decide) c_26
          refine lv_aload_n hx hb dX12_hill_89 rfl (lv_at hl 1 rfl) ?_
          refine t_gr hx hb hts hown hK hG hB mh0 th0 fq_12_20 rfl mw_5_236 dX12_hill_90 (fun b_31 hb_31 mb_31 tb_31 => ?_)
          refine lv_bipush (v := 18) hx hb dX12_hill_93 (by decide) ?_
          refine lv_iload_n hx hb dX12_hill_95 rfl (lv_at hl 0 rfl) ?_
          refine lv_iadd hx hb dX12_hill_96 ?_
          refine lv_topi (fun x_32 ex_32 => ?_)
          have vx_32 := b_add (by decide : (18 : Int32).toInt = 18) (rfl : i_21.toInt = _) ex_32 (by omega) (by omega)
          refine lv_aload_n hx hb dX12_hill_97 rfl (lv_at hl 1 rfl) ?_
          refine t_gk hx hb hts hown hK hB mh0 th0 fq_12_20 hb_31 mw_5_236 dX12_hill_98 ?_
          refine lv_bipush (v := 125) hx hb dX12_hill_101 (by decide) ?_
          refine lv_iload_n hx hb dX12_hill_103 rfl (lv_at hl 0 rfl) ?_
          refine lv_iadd hx hb dX12_hill_104 ?_
          refine lv_topi (fun x_33 ex_33 => ?_)
          have vx_33 := b_add (by decide : (125 : Int32).toInt = 125) (rfl : i_21.toInt = _) ex_33 (by omega) (by omega)
          refine t_aj hx hb hK hB mb_31 tb_31 ai_70 (i_in (by omega) (by omega)) dX12_hill_105 (fun x_34 ex_34 lx_34 ux_34 => ?_)
          have ax_34 := lx_34
          have bx_34 := ux_34
          rw [show ry 70 x_33.toNatClampNeg = (0, 9) from sbK (by have hn : x_33.toNatClampNeg = x_33.toInt.toNat := rfl; omega) (by have hn : x_33.toNatClampNeg = x_33.toInt.toNat := rfl; omega)] at lx_34 ux_34
          have cx_34 := congrArg Int32.toInt ex_34
          refine t_si hx hb hK hLA hB hS mb_31 tb_31 ai_70 (i_in (by omega) (by omega)) (by rw [show ry 70 x_32.toNatClampNeg = (0, 99) from sbH (by have hn : x_32.toNatClampNeg = x_32.toInt.toNat := rfl; omega) (by have hn : x_32.toNatClampNeg = x_32.toInt.toNat := rfl; omega)]; show (0 : Int) ≤ _; omega) (by rw [show ry 70 x_32.toNatClampNeg = (0, 99) from sbH (by have hn : x_32.toNatClampNeg = x_32.toInt.toNat := rfl; omega) (by have hn : x_32.toNatClampNeg = x_32.toInt.toNat := rfl; omega)]; show _ ≤ (99 : Int); omega) (Or.inr (by decide)) dX12_hill_106 (fun H locs σ_35 eσ_35 hB hS => ?_)
          have k_36 : σ_35 b_31 x_32.toNatClampNeg = x_34 := by rw [eσ_35]; exact up2_same _ _ _ _
          obtain ⟨x_37, ex_37⟩ : ∃ y : Int32, y = i_21 + 1 := ⟨_, rfl⟩
          have vx_37 := b_add (rfl : i_21.toInt = _) (by decide : (1 : Int32).toInt = 1) ex_37 (by omega) (by omega)
          refine lv_iinc (v := x_37) (lv' := [(1, .int x_37), (0, .ref h0)]) hx hb dX12_hill_107 hl (k := 0) rfl (by rw [ex_37]; rfl) (by decide) rfl (fun ls hl => ?_)
          refine lv_goto (tgt := 83) hx hb dX12_hill_110 (by decide) ?_
          have k_38 : σ_35 h0 11 = 6 := by rw [eσ_35, up2_nea _ _ (tg_ne th0 tb_31 (by decide))]; exact k_25
          exact ih_24 ⟨x_37, σ_35, ρ_23⟩ _ _ _ ⟨(by omega), (by omega), k_38, hB, hS, lv_sub hl [0, 1] rfl⟩ (by show (40 - x_37.toInt).toNat < (40 - i_21.toInt).toNat; omega)
      · skip
        have uc_20 := i_nge (n := 201) (by decide) c_20
        refine lv_aload_n hx hb dX12_hill_52 rfl (lv_at hl 1 rfl) ?_
        refine t_gr hx hb hts hown hK hG hB mh0 th0 fq_12_20 rfl mw_5_236 dX12_hill_53 (fun b_39 hb_39 mb_39 tb_39 => ?_)
        refine lv_iload_n hx hb dX12_hill_56 rfl (lv_at hl 0 rfl) ?_
        refine lv_iload_n hx hb dX12_hill_57 rfl (lv_at hl 0 rfl) ?_
        refine lv_sipush (v := 165) hx hb dX12_hill_58 (by decide) ?_
        refine lv_icmp_ge (tgt := 73) hx hb dX12_hill_61 (by decide) (fun c_40 => ?_) (fun c_40 => ?_)
        · skip
          have uc_40 := i_ge (n := 165) (by decide) c_40
          refine lv_iconst (v := 0) hx hb dX12_hill_73 (by decide) ?_
          refine t_si hx hb hK hLA hB hS mb_39 tb_39 ai_70 (i_in (by omega) (by omega)) (show (sb _).1 ≤ _ by rw [show (0 : Int32).toInt = 0 from by decide]; exact (sb_z _).1) (show _ ≤ (sb _).2 by rw [show (0 : Int32).toInt = 0 from by decide]; exact (sb_z _).2) (Or.inr (by decide)) dX12_hill_74 (fun H locs σ_41 eσ_41 hB hS => ?_)
          have k_42 : σ_41 b_39 i_15.toNatClampNeg = 0 := by rw [eσ_41]; exact up2_same _ _ _ _
          obtain ⟨x_43, ex_43⟩ : ∃ y : Int32, y = i_15 + 1 := ⟨_, rfl⟩
          have vx_43 := b_add (rfl : i_15.toInt = _) (by decide : (1 : Int32).toInt = 1) ex_43 (by omega) (by omega)
          refine lv_iinc (v := x_43) (lv' := [(1, .int x_43), (0, .ref h0)]) hx hb dX12_hill_75 hl (k := 0) rfl (by rw [ex_43]; rfl) (by decide) rfl (fun ls hl => ?_)
          refine lv_goto (tgt := 45) hx hb dX12_hill_78 (by decide) ?_
          have k_44 : σ_41 h0 11 = 6 := by rw [eσ_41, up2_nea _ _ (tg_ne th0 tb_39 (by decide))]; exact k_19
          exact ih_18 ⟨x_43, σ_41, ρ_17⟩ _ _ _ ⟨(by omega), (by omega), k_44, hB, hS, lv_sub hl [0, 1] rfl⟩ (by show (201 - x_43.toInt).toNat < (201 - i_15.toInt).toNat; omega)
        · skip
          have uc_40 := i_nge (n := 165) (by decide) c_40
          refine lv_aload_n hx hb dX12_hill_64 rfl (lv_at hl 1 rfl) ?_
          refine t_gr hx hb hts hown hK hG hB mh0 th0 fq_12_7 rfl mw_5_223 dX12_hill_65 (fun b_45 hb_45 mb_45 tb_45 => ?_)
          refine lv_iload_n hx hb dX12_hill_68 rfl (lv_at hl 0 rfl) ?_
          refine t_aj hx hb hK hB mb_45 tb_45 ai_66 (i_in (by omega) (by omega)) dX12_hill_69 (fun x_46 ex_46 lx_46 ux_46 => ?_)
          have ax_46 := lx_46
          have bx_46 := ux_46
          clear lx_46 ux_46
          have cx_46 := congrArg Int32.toInt ex_46
          refine lv_goto (tgt := 74) hx hb dX12_hill_70 (by decide) ?_
          refine t_si hx hb hK hLA hB hS mb_39 tb_39 ai_70 (i_in (by omega) (by omega)) (show (sb _).1 ≤ _ from ax_46) (show _ ≤ (sb _).2 from bx_46) (Or.inr (by decide)) dX12_hill_74 (fun H locs σ_47 eσ_47 hB hS => ?_)
          have k_48 : σ_47 b_39 i_15.toNatClampNeg = x_46 := by rw [eσ_47]; exact up2_same _ _ _ _
          obtain ⟨x_49, ex_49⟩ : ∃ y : Int32, y = i_15 + 1 := ⟨_, rfl⟩
          have vx_49 := b_add (rfl : i_15.toInt = _) (by decide : (1 : Int32).toInt = 1) ex_49 (by omega) (by omega)
          refine lv_iinc (v := x_49) (lv' := [(1, .int x_49), (0, .ref h0)]) hx hb dX12_hill_75 hl (k := 0) rfl (by rw [ex_49]; rfl) (by decide) rfl (fun ls hl => ?_)
          refine lv_goto (tgt := 45) hx hb dX12_hill_78 (by decide) ?_
          have k_50 : σ_47 h0 11 = 6 := by rw [eσ_47, up2_nea _ _ (tg_ne th0 tb_39 (by decide))]; exact k_19
          exact ih_18 ⟨x_49, σ_47, ρ_17⟩ _ _ _ ⟨(by omega), (by omega), k_50, hB, hS, lv_sub hl [0, 1] rfl⟩ (by show (201 - x_49.toInt).toNat < (201 - i_15.toInt).toNat; omega)
    · skip
      have uc_13 := i_eq (n := 0) (by decide) c_13
      refine lv_bipush (v := (-2)) hx hb dX12_hill_35 (by decide) ?_
      refine lv_aload_n hx hb dX12_hill_37 rfl (lv_at hl 1 rfl) ?_
      refine t_gi hx hb hts hown hK hB mh0 th0 fi_12_9 rfl mw_5_225 dX12_hill_38 (fun x_51 ex_51 lx_51 ux_51 => ?_)
      have cx_51 := congrArg Int32.toInt ex_51
      refine lv_isub hx hb dX12_hill_41 ?_
      refine lv_topi (fun x_52 ex_52 => ?_)
      try have vx_52 := b_sub (by decide : ((-2) : Int32).toInt = (-2)) (rfl : x_51.toInt = _) ex_52 (by omega) (by omega)
      exact W.iret (v := x_52) hx hb hr (fun t ht hW => ⟨⟨x_52, (σ_10, ρ_11), rfl, ⟨hB.2.1, hB.2.2, trivial⟩, (show TP D cA L T r σ_10 ρ_11 t.heap from by rw [ht]; exact hB.1)⟩, hS.F ht⟩) hS.2.2 dX12_hill_42
  · skip
    have uc_8 := i_nge (n := 165) (by decide) c_8
    refine lv_aload_n hx hb dX12_hill_15 rfl (lv_at hl 1 rfl) ?_
    refine t_gr hx hb hts hown hK hG hB mh0 th0 fq_12_7 rfl mw_5_223 dX12_hill_16 (fun b_53 hb_53 mb_53 tb_53 => ?_)
    refine lv_iload_n hx hb dX12_hill_19 rfl (lv_at hl 0 rfl) ?_
    refine lv_iconst (v := 0) hx hb dX12_hill_20 (by decide) ?_
    refine t_si hx hb hK hLA hB hS mb_53 tb_53 ai_66 (i_in (by omega) (by omega)) (show (sb _).1 ≤ _ by rw [show (0 : Int32).toInt = 0 from by decide]; exact (sb_z _).1) (show _ ≤ (sb _).2 by rw [show (0 : Int32).toInt = 0 from by decide]; exact (sb_z _).2) (Or.inr (by decide)) dX12_hill_21 (fun H locs σ_54 eσ_54 hB hS => ?_)
    have k_55 : σ_54 b_53 i_3.toNatClampNeg = 0 := by rw [eσ_54]; exact up2_same _ _ _ _
    obtain ⟨x_56, ex_56⟩ : ∃ y : Int32, y = i_3 + 1 := ⟨_, rfl⟩
    have vx_56 := b_add (rfl : i_3.toInt = _) (by decide : (1 : Int32).toInt = 1) ex_56 (by omega) (by omega)
    refine lv_iinc (v := x_56) (lv' := [(1, .int x_56), (0, .ref h0)]) hx hb dX12_hill_22 hl (k := 0) rfl (by rw [ex_56]; rfl) (by decide) rfl (fun ls hl => ?_)
    refine lv_goto (tgt := 8) hx hb dX12_hill_25 (by decide) ?_
    have k_57 : σ_54 h0 11 = 6 := by rw [eσ_54, up2_nea _ _ (tg_ne th0 tb_53 (by decide))]; exact k_7
    exact ih_6 ⟨x_56, σ_54, ρ_5⟩ _ _ _ ⟨(by omega), (by omega), k_57, hB, hS, lv_sub hl [0, 1] rfl⟩ (by show (165 - x_56.toInt).toNat < (165 - i_3.toInt).toNat; omega)
