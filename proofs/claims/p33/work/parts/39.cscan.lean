theorem mw_3_29 : (.static yX9_isDigit : Cond) ∈ wsA := wsA_t (List.mem_append_right _ (List.mem_append_right _ (List.mem_append_left _ (List.mem_of_getElem? (l := tables_1_3) (i := 29) rfl)))) rfl
theorem mw_3_30 : (.code yX9_isDigit cX9_isDigit 1 (some .boolean) : Cond) ∈ wsA := wsA_t (List.mem_append_right _ (List.mem_append_right _ (List.mem_append_left _ (List.mem_of_getElem? (l := tables_1_3) (i := 30) rfl)))) rfl
theorem mw_3_28 : (.methodLink RX9 34 yX9_isDigit : Cond) ∈ wsA := wsA_t (List.mem_append_right _ (List.mem_append_right _ (List.mem_append_left _ (List.mem_of_getElem? (l := tables_1_3) (i := 28) rfl)))) rfl
theorem mw_3_37 : (.instanceMethod yX9_put : Cond) ∈ wsA := wsA_t (List.mem_append_right _ (List.mem_append_right _ (List.mem_append_left _ (List.mem_of_getElem? (l := tables_1_3) (i := 37) rfl)))) rfl
theorem mp_1_1 : (.selects RX9 yX9_put yX9_put : Cond) ∈ wsA := wsA_p (q := (yX9_put, 7)) (List.mem_append_left _ (List.mem_of_getElem? (l := lw_privs_1) (i := 1) rfl))
theorem mw_3_38 : (.code yX9_put cX9_put 4 none : Cond) ∈ wsA := wsA_t (List.mem_append_right _ (List.mem_append_right _ (List.mem_append_left _ (List.mem_of_getElem? (l := tables_1_3) (i := 38) rfl)))) rfl
theorem mw_3_35 : (.methodLink RX9 51 yX9_put : Cond) ∈ wsA := wsA_t (List.mem_append_right _ (List.mem_append_right _ (List.mem_append_left _ (List.mem_of_getElem? (l := tables_1_3) (i := 35) rfl)))) rfl
theorem dX9_scanNumber_0 : decode cX9_scanNumber 0 = .ok (.iconst 0, 1) := by decide +kernel
theorem dX9_scanNumber_1 : decode cX9_scanNumber 1 = .ok (.istore_n 2, 1) := by decide +kernel
theorem dX9_scanNumber_2 : decode cX9_scanNumber 2 = .ok (.iload_n 1, 1) := by decide +kernel
theorem dX9_scanNumber_3 : decode cX9_scanNumber 3 = .ok (.istore_n 3, 1) := by decide +kernel
theorem dX9_scanNumber_4 : decode cX9_scanNumber 4 = .ok (.iload_n 3, 1) := by decide +kernel
theorem dX9_scanNumber_5 : decode cX9_scanNumber 5 = .ok (.aload_n 0, 1) := by decide +kernel
theorem dX9_scanNumber_6 : decode cX9_scanNumber 6 = .ok (.getfield 24, 3) := by decide +kernel
theorem dX9_scanNumber_9 : decode cX9_scanNumber 9 = .ok (.if_icmp .ge 43, 3) := by decide +kernel
theorem dX9_scanNumber_12 : decode cX9_scanNumber 12 = .ok (.aload_n 0, 1) := by decide +kernel
theorem dX9_scanNumber_13 : decode cX9_scanNumber 13 = .ok (.getfield 11, 3) := by decide +kernel
theorem dX9_scanNumber_16 : decode cX9_scanNumber 16 = .ok (.iload_n 3, 1) := by decide +kernel
theorem dX9_scanNumber_17 : decode cX9_scanNumber 17 = .ok (.iaload, 1) := by decide +kernel
theorem dX9_scanNumber_18 : decode cX9_scanNumber 18 = .ok (.invokestatic 34, 3) := by decide +kernel
theorem dX9_scanNumber_21 : decode cX9_scanNumber 21 = .ok (.ifCond .eq 31, 3) := by decide +kernel
theorem dX9_scanNumber_24 : decode cX9_scanNumber 24 = .ok (.iload_n 3, 1) := by decide +kernel
theorem dX9_scanNumber_25 : decode cX9_scanNumber 25 = .ok (.iload_n 1, 1) := by decide +kernel
theorem dX9_scanNumber_26 : decode cX9_scanNumber 26 = .ok (.isub, 1) := by decide +kernel
theorem dX9_scanNumber_27 : decode cX9_scanNumber 27 = .ok (.iconst 5, 1) := by decide +kernel
theorem dX9_scanNumber_28 : decode cX9_scanNumber 28 = .ok (.if_icmp .ge 18, 3) := by decide +kernel
theorem dX9_scanNumber_46 : decode cX9_scanNumber 46 = .ok (.iinc 3 1, 3) := by decide +kernel
theorem dX9_scanNumber_49 : decode cX9_scanNumber 49 = .ok (.goto (-45), 3) := by decide +kernel
theorem dX9_scanNumber_31 : decode cX9_scanNumber 31 = .ok (.iload_n 2, 1) := by decide +kernel
theorem dX9_scanNumber_32 : decode cX9_scanNumber 32 = .ok (.bipush 10, 2) := by decide +kernel
theorem dX9_scanNumber_34 : decode cX9_scanNumber 34 = .ok (.imul, 1) := by decide +kernel
theorem dX9_scanNumber_35 : decode cX9_scanNumber 35 = .ok (.aload_n 0, 1) := by decide +kernel
theorem dX9_scanNumber_36 : decode cX9_scanNumber 36 = .ok (.getfield 11, 3) := by decide +kernel
theorem dX9_scanNumber_39 : decode cX9_scanNumber 39 = .ok (.iload_n 3, 1) := by decide +kernel
theorem dX9_scanNumber_40 : decode cX9_scanNumber 40 = .ok (.iaload, 1) := by decide +kernel
theorem dX9_scanNumber_41 : decode cX9_scanNumber 41 = .ok (.iadd, 1) := by decide +kernel
theorem dX9_scanNumber_42 : decode cX9_scanNumber 42 = .ok (.bipush 48, 2) := by decide +kernel
theorem dX9_scanNumber_44 : decode cX9_scanNumber 44 = .ok (.isub, 1) := by decide +kernel
theorem dX9_scanNumber_45 : decode cX9_scanNumber 45 = .ok (.istore_n 2, 1) := by decide +kernel
theorem dX9_scanNumber_52 : decode cX9_scanNumber 52 = .ok (.aload_n 0, 1) := by decide +kernel
theorem dX9_scanNumber_53 : decode cX9_scanNumber 53 = .ok (.sipush 130, 3) := by decide +kernel
theorem dX9_scanNumber_56 : decode cX9_scanNumber 56 = .ok (.iload_n 1, 1) := by decide +kernel
theorem dX9_scanNumber_57 : decode cX9_scanNumber 57 = .ok (.iload_n 3, 1) := by decide +kernel
theorem dX9_scanNumber_58 : decode cX9_scanNumber 58 = .ok (.iload_n 1, 1) := by decide +kernel
theorem dX9_scanNumber_59 : decode cX9_scanNumber 59 = .ok (.isub, 1) := by decide +kernel
theorem dX9_scanNumber_60 : decode cX9_scanNumber 60 = .ok (.iconst 5, 1) := by decide +kernel
theorem dX9_scanNumber_61 : decode cX9_scanNumber 61 = .ok (.if_icmp .le 7, 3) := by decide +kernel
theorem dX9_scanNumber_68 : decode cX9_scanNumber 68 = .ok (.iload_n 2, 1) := by decide +kernel
theorem dX9_scanNumber_69 : decode cX9_scanNumber 69 = .ok (.invokevirtual 51, 3) := by decide +kernel
theorem dX9_scanNumber_72 : decode cX9_scanNumber 72 = .ok (.iload_n 3, 1) := by decide +kernel
theorem dX9_scanNumber_73 : decode cX9_scanNumber 73 = .ok (.ireturn, 1) := by decide +kernel
theorem dX9_scanNumber_64 : decode cX9_scanNumber 64 = .ok (.iconst (-1), 1) := by decide +kernel
theorem dX9_scanNumber_65 : decode cX9_scanNumber 65 = .ok (.goto 4, 3) := by decide +kernel
theorem ms_X9_isDigit : MS RX9 yX9_isDigit cX9_isDigit 1 (some .boolean) 1 := ⟨mw_3_29, mw_1_2, mw_3_30, ⟨rfl, by decide, by decide, by decide +kernel⟩⟩
theorem mv_X9_put : MV RX9 yX9_put cX9_put 4 none 3 := ⟨mw_3_37, mp_1_1, mw_1_2, mw_3_38, ⟨rfl, by decide, by decide, by decide +kernel⟩⟩
set_option maxHeartbeats 4000000 in
set_option maxRecDepth 100000 in
theorem cy_X9_scanNumber (l : Launch) (D : va_G) (cA : Nat → ClassId) (L : List Nat) (T : Nat → Nat) (r : Rg) (hG : GR L T r) (hL : L.Nodup) (σ : Sg) (ρ : Lg) (hW : WT L ry T σ) (sz : Nat) (h0 : Nat) (mh0 : h0 ∈ L) (th0 : T h0 = 9) (p1 : Int32) (w0 : 0 ≤ p1.toInt) (w1 : p1.toInt ≤ 399) : Met l yX9_scanNumber (.code yX9_scanNumber cX9_scanNumber 4 (some .int) :: wsA) ({ frames := 1, cells := 0, slots := 0, locals := 23 }) (PR D cA L T r σ ρ sz [.ref h0, .int p1]) (QI D cA L T r ry [(9, 5), (52, 1000), (53, 1000), (54, 1000)] σ sz (fun x σ1 => (0 ≤ x.toInt ∧ x.toInt ≤ 400))) 0 0 (dm L sz) := by
  refine Met.ofW (cc := cX9_scanNumber) (maxL := 4) (ret := (some .int)) (by decide) rfl ?_
  intro p e s m args below meth c s₁ B hml hv
  obtain ⟨rfl, hsz, hP, hK, hN⟩ := hv
  have hx := B.exec
  have hb := B.bytes
  have hr := B.returns
  have hts : ∀ w ∈ wsA, w.before _ s = true := fun w h => atoms_spec (ws := .code yX9_scanNumber cX9_scanNumber 4 (some .int) :: wsA) B.pre w (List.mem_cons_of_mem _ h)
  have hown : s.vm.findClass RX9 = some m.cls := findClass_of_methodNamed B.named
  subst hsz
  have hLA : LA (dm L s.heap.size) L := ⟨hL, fun a h => Or.inl h⟩
  have hA : ∀ q : Nat, s.heap.size ≤ q → dm L s.heap.size q := fun q h => Or.inr h
  have hS : va_S (dm L s.heap.size) s.heap s.heap [] := va_S.rf
  have hB : TS D cA L T r ry [(9, 5), (52, 1000), (53, 1000), (54, 1000)] σ σ ρ s.heap := ⟨hP, hW, FR.rf⟩
  have hl := lv_entry ([.ref h0, .int p1]) (n := 4) (Nat.le_of_ble_eq_true rfl)
  rw [lg_entry_eq]
  generalize (lg_sl ([.ref h0, .int p1]) ++ List.replicate (4 - (lg_sl ([.ref h0, .int p1])).length) Slot.unset).toArray = ls at hl ⊢
  have hl : lv_has ls 4 [(0, .ref h0), (1, .int p1)] := hl
  refine lv_iconst (v := 0) hx hb dX9_scanNumber_0 (by decide) ?_
  refine lv_istore_n (lv' := [(2, .int 0), (0, .ref h0), (1, .int p1)]) hx hb dX9_scanNumber_1 rfl hl (by decide) rfl (fun ls hl => ?_)
  refine lv_iload_n hx hb dX9_scanNumber_2 rfl (lv_at hl 2 rfl) ?_
  refine lv_istore_n (lv' := [(3, .int p1), (2, .int 0), (0, .ref h0), (1, .int p1)]) hx hb dX9_scanNumber_3 rfl hl (by decide) rfl (fun ls hl => ?_)
  refine w_loop (α := Int32 × Int32 × Sg × Lg) (fun (i_1, i_2, σ_3, ρ_4) H locs ls => 0 ≤ i_1.toInt ∧ i_1.toInt ≤ 99999 ∧ 0 ≤ i_2.toInt ∧ i_2.toInt ≤ 400 ∧ ((i_2.toInt - p1.toInt = 0 → i_1.toInt = 0) ∧ (i_2.toInt - p1.toInt = 1 → i_1.toInt ≤ 9) ∧ (i_2.toInt - p1.toInt = 2 → i_1.toInt ≤ 99) ∧ (i_2.toInt - p1.toInt = 3 → i_1.toInt ≤ 999) ∧ (i_2.toInt - p1.toInt = 4 → i_1.toInt ≤ 9999) ∧ p1.toInt ≤ i_2.toInt) ∧ TS D cA L T r ry [(9, 5), (52, 1000), (53, 1000), (54, 1000)] σ σ_3 ρ_4 H ∧ va_S (dm L s.heap.size) s.heap H locs ∧ lv_has ls 4 [(3, .int i_2), (2, .int i_1), (0, .ref h0), (1, .int p1)]) (fun (i_1, i_2, σ_3, ρ_4) => (400 - i_2.toInt).toNat) ?_ ⟨0, p1, σ, ρ⟩ ⟨(by decide), (by decide), (by omega), (by omega), (by have z : (0 : Int32).toInt = 0 := (by decide); omega), hB, hS, lv_sub hl [0, 1, 2, 3] rfl⟩
  rintro ⟨i_1, i_2, σ_3, ρ_4⟩ H locs ls ⟨li_1, ui_1, li_2, ui_2, g_6, hB, hS, hl⟩ ih_5
  refine lv_iload_n hx hb dX9_scanNumber_4 rfl (lv_at hl 0 rfl) ?_
  refine lv_aload_n hx hb dX9_scanNumber_5 rfl (lv_at hl 2 rfl) ?_
  refine t_gi hx hb hts hown hK hB mh0 th0 fi_9_4 rfl mw_1_41 dX9_scanNumber_6 (fun x_7 ex_7 lx_7 ux_7 => ?_)
  have cx_7 := congrArg Int32.toInt ex_7
  refine lv_icmp_ge (tgt := 52) hx hb dX9_scanNumber_9 (by decide) (fun c_8 => ?_) (fun c_8 => ?_)
  · skip
    have uc_8 := j_le c_8
    refine lv_aload_n hx hb dX9_scanNumber_52 rfl (lv_at hl 2 rfl) ?_
    refine lv_sipush (v := 130) hx hb dX9_scanNumber_53 (by decide) ?_
    refine lv_iload_n hx hb dX9_scanNumber_56 rfl (lv_at hl 3 rfl) ?_
    refine lv_iload_n hx hb dX9_scanNumber_57 rfl (lv_at hl 0 rfl) ?_
    refine lv_iload_n hx hb dX9_scanNumber_58 rfl (lv_at hl 3 rfl) ?_
    refine lv_isub hx hb dX9_scanNumber_59 ?_
    refine lv_topi (fun x_9 ex_9 => ?_)
    have vx_9 := b_sub (rfl : i_2.toInt = _) (rfl : p1.toInt = _) ex_9 (by omega) (by omega)
    refine lv_iconst (v := 5) hx hb dX9_scanNumber_60 (by decide) ?_
    refine lv_icmp_le (tgt := 68) hx hb dX9_scanNumber_61 (by decide) (fun c_10 => ?_) (fun c_10 => ?_)
    · skip
      have uc_10 := i_le (n := 5) (by decide) c_10
      refine lv_iload_n hx hb dX9_scanNumber_68 rfl (lv_at hl 1 rfl) ?_
      refine t_cv (va_runV (As := [.int 130, .int p1, .int i_1]) (rest := []) ⟨hx, hb, hml, hown, hts⟩ (cy_X9_put l D cA L T r hG hLA.1 σ_3 ρ_4 hB.2.1 _ h0 mh0 th0 130 p1 i_1 (by first | omega | decide) (by first | omega | decide) (by first | omega | decide) (by first | omega | decide) (by first | omega | decide) (by first | omega | decide)) (cV hts mv_X9_put mw_3_35 rfl rfl ⟨Nat.le_of_ble_eq_true rfl, Nat.le_of_ble_eq_true rfl⟩) (pV hB.1 hK hN mh0 th0 (show shp cA 9 _ _ _ = .inr (9, Fs9 _ _ _) from rfl) rfl) rfl rfl hl.1 rfl (lv_room (Nat.le_of_ble_eq_true rfl)) dX9_scanNumber_69 ⟨Nat.le_of_ble_eq_true rfl, Nat.le_of_ble_eq_true rfl⟩) hLA hA hB hS (by decide) (fun σ_11 ρ_12 H locs hB fσ_11 pσ_11 hS => ?_)
      refine lv_iload_n hx hb dX9_scanNumber_72 rfl (lv_at hl 0 rfl) ?_
      exact W.iret (v := i_2) hx hb hr (fun t ht hW => ⟨⟨i_2, (σ_11, ρ_12), rfl, ⟨hB.2.1, hB.2.2, (show 0 ≤ (i_2 : Int32).toInt ∧ (i_2 : Int32).toInt ≤ 400 from ⟨by omega, by omega⟩)⟩, (show TP D cA L T r σ_11 ρ_12 t.heap from by rw [ht]; exact hB.1)⟩, hS.F ht⟩) hS.2.2 dX9_scanNumber_73
    · skip
      have uc_10 := i_nle (n := 5) (by decide) c_10
      refine lv_iconst (v := (-1)) hx hb dX9_scanNumber_64 (by decide) ?_
      refine lv_goto (tgt := 69) hx hb dX9_scanNumber_65 (by decide) ?_
      refine t_cv (va_runV (As := [.int 130, .int p1, .int (-1)]) (rest := []) ⟨hx, hb, hml, hown, hts⟩ (cy_X9_put l D cA L T r hG hLA.1 σ_3 ρ_4 hB.2.1 _ h0 mh0 th0 130 p1 ((-1)) (by first | omega | decide) (by first | omega | decide) (by first | omega | decide) (by first | omega | decide) (by first | omega | decide) (by first | omega | decide)) (cV hts mv_X9_put mw_3_35 rfl rfl ⟨Nat.le_of_ble_eq_true rfl, Nat.le_of_ble_eq_true rfl⟩) (pV hB.1 hK hN mh0 th0 (show shp cA 9 _ _ _ = .inr (9, Fs9 _ _ _) from rfl) rfl) rfl rfl hl.1 rfl (lv_room (Nat.le_of_ble_eq_true rfl)) dX9_scanNumber_69 ⟨Nat.le_of_ble_eq_true rfl, Nat.le_of_ble_eq_true rfl⟩) hLA hA hB hS (by decide) (fun σ_14 ρ_15 H locs hB fσ_14 pσ_14 hS => ?_)
      refine lv_iload_n hx hb dX9_scanNumber_72 rfl (lv_at hl 0 rfl) ?_
      exact W.iret (v := i_2) hx hb hr (fun t ht hW => ⟨⟨i_2, (σ_14, ρ_15), rfl, ⟨hB.2.1, hB.2.2, (show 0 ≤ (i_2 : Int32).toInt ∧ (i_2 : Int32).toInt ≤ 400 from ⟨by omega, by omega⟩)⟩, (show TP D cA L T r σ_14 ρ_15 t.heap from by rw [ht]; exact hB.1)⟩, hS.F ht⟩) hS.2.2 dX9_scanNumber_73
  · skip
    have uc_8 := j_nle c_8
    refine lv_aload_n hx hb dX9_scanNumber_12 rfl (lv_at hl 2 rfl) ?_
    refine t_gr hx hb hts hown hK hG hB mh0 th0 fq_9_0 rfl mw_1_36 dX9_scanNumber_13 (fun b_17 hb_17 mb_17 tb_17 => ?_)
    refine lv_iload_n hx hb dX9_scanNumber_16 rfl (lv_at hl 0 rfl) ?_
    refine t_ai hx hb hK hB mb_17 tb_17 ai_51 (fun _ => rfl) (i_in (by omega) (by omega)) dX9_scanNumber_17 (fun x_18 ex_18 lx_18 ux_18 => ?_)
    have cx_18 := congrArg Int32.toInt ex_18
    refine t_ci (va_runS (As := [.int x_18]) (rest := []) ⟨hx, hb, hml, hown, hts⟩ (cy_X9_isDigit l D cA L T r hG hLA.1 σ_3 ρ_4 hB.2.1 _ x_18) (cS hts ms_X9_isDigit mw_3_28 rfl rfl ⟨Nat.le_of_ble_eq_true rfl, Nat.le_of_ble_eq_true rfl⟩) (pS hB.1 hK hN) rfl rfl hl.1 rfl (lv_room (Nat.le_of_ble_eq_true rfl)) dX9_scanNumber_18 ⟨Nat.le_of_ble_eq_true rfl, Nat.le_of_ble_eq_true rfl⟩) hLA hA hB hS (by decide) (fun x_21 σ_19 ρ_20 H locs hB fσ_19 pσ_19 hS => ?_)
    have qσ_19 := FR.nil fσ_19
    subst qσ_19
    obtain ⟨ox_21, ix_21⟩ := pσ_19
    refine lv_if_eq (tgt := 52) hx hb dX9_scanNumber_21 (by decide) (fun c_22 => ?_) (fun c_22 => ?_)
    · skip
      have uc_22 := i_eq (n := 0) (by decide) c_22
      refine lv_aload_n hx hb dX9_scanNumber_52 rfl (lv_at hl 2 rfl) ?_
      refine lv_sipush (v := 130) hx hb dX9_scanNumber_53 (by decide) ?_
      refine lv_iload_n hx hb dX9_scanNumber_56 rfl (lv_at hl 3 rfl) ?_
      refine lv_iload_n hx hb dX9_scanNumber_57 rfl (lv_at hl 0 rfl) ?_
      refine lv_iload_n hx hb dX9_scanNumber_58 rfl (lv_at hl 3 rfl) ?_
      refine lv_isub hx hb dX9_scanNumber_59 ?_
      refine lv_topi (fun x_23 ex_23 => ?_)
      have vx_23 := b_sub (rfl : i_2.toInt = _) (rfl : p1.toInt = _) ex_23 (by omega) (by omega)
      refine lv_iconst (v := 5) hx hb dX9_scanNumber_60 (by decide) ?_
      refine lv_icmp_le (tgt := 68) hx hb dX9_scanNumber_61 (by decide) (fun c_24 => ?_) (fun c_24 => ?_)
      · skip
        have uc_24 := i_le (n := 5) (by decide) c_24
        refine lv_iload_n hx hb dX9_scanNumber_68 rfl (lv_at hl 1 rfl) ?_
        refine t_cv (va_runV (As := [.int 130, .int p1, .int i_1]) (rest := []) ⟨hx, hb, hml, hown, hts⟩ (cy_X9_put l D cA L T r hG hLA.1 σ_3 ρ_20 hB.2.1 _ h0 mh0 th0 130 p1 i_1 (by first | omega | decide) (by first | omega | decide) (by first | omega | decide) (by first | omega | decide) (by first | omega | decide) (by first | omega | decide)) (cV hts mv_X9_put mw_3_35 rfl rfl ⟨Nat.le_of_ble_eq_true rfl, Nat.le_of_ble_eq_true rfl⟩) (pV hB.1 hK hN mh0 th0 (show shp cA 9 _ _ _ = .inr (9, Fs9 _ _ _) from rfl) rfl) rfl rfl hl.1 rfl (lv_room (Nat.le_of_ble_eq_true rfl)) dX9_scanNumber_69 ⟨Nat.le_of_ble_eq_true rfl, Nat.le_of_ble_eq_true rfl⟩) hLA hA hB hS (by decide) (fun σ_25 ρ_26 H locs hB fσ_25 pσ_25 hS => ?_)
        refine lv_iload_n hx hb dX9_scanNumber_72 rfl (lv_at hl 0 rfl) ?_
        exact W.iret (v := i_2) hx hb hr (fun t ht hW => ⟨⟨i_2, (σ_25, ρ_26), rfl, ⟨hB.2.1, hB.2.2, (show 0 ≤ (i_2 : Int32).toInt ∧ (i_2 : Int32).toInt ≤ 400 from ⟨by omega, by omega⟩)⟩, (show TP D cA L T r σ_25 ρ_26 t.heap from by rw [ht]; exact hB.1)⟩, hS.F ht⟩) hS.2.2 dX9_scanNumber_73
      · skip
        have uc_24 := i_nle (n := 5) (by decide) c_24
        refine lv_iconst (v := (-1)) hx hb dX9_scanNumber_64 (by decide) ?_
        refine lv_goto (tgt := 69) hx hb dX9_scanNumber_65 (by decide) ?_
        refine t_cv (va_runV (As := [.int 130, .int p1, .int (-1)]) (rest := []) ⟨hx, hb, hml, hown, hts⟩ (cy_X9_put l D cA L T r hG hLA.1 σ_3 ρ_20 hB.2.1 _ h0 mh0 th0 130 p1 ((-1)) (by first | omega | decide) (by first | omega | decide) (by first | omega | decide) (by first | omega | decide) (by first | omega | decide) (by first | omega | decide)) (cV hts mv_X9_put mw_3_35 rfl rfl ⟨Nat.le_of_ble_eq_true rfl, Nat.le_of_ble_eq_true rfl⟩) (pV hB.1 hK hN mh0 th0 (show shp cA 9 _ _ _ = .inr (9, Fs9 _ _ _) from rfl) rfl) rfl rfl hl.1 rfl (lv_room (Nat.le_of_ble_eq_true rfl)) dX9_scanNumber_69 ⟨Nat.le_of_ble_eq_true rfl, Nat.le_of_ble_eq_true rfl⟩) hLA hA hB hS (by decide) (fun σ_28 ρ_29 H locs hB fσ_28 pσ_28 hS => ?_)
        refine lv_iload_n hx hb dX9_scanNumber_72 rfl (lv_at hl 0 rfl) ?_
        exact W.iret (v := i_2) hx hb hr (fun t ht hW => ⟨⟨i_2, (σ_28, ρ_29), rfl, ⟨hB.2.1, hB.2.2, (show 0 ≤ (i_2 : Int32).toInt ∧ (i_2 : Int32).toInt ≤ 400 from ⟨by omega, by omega⟩)⟩, (show TP D cA L T r σ_28 ρ_29 t.heap from by rw [ht]; exact hB.1)⟩, hS.F ht⟩) hS.2.2 dX9_scanNumber_73
    · skip
      have uc_22 := i_ne (n := 0) (by decide) c_22
      refine lv_iload_n hx hb dX9_scanNumber_24 rfl (lv_at hl 0 rfl) ?_
      refine lv_iload_n hx hb dX9_scanNumber_25 rfl (lv_at hl 3 rfl) ?_
      refine lv_isub hx hb dX9_scanNumber_26 ?_
      refine lv_topi (fun x_31 ex_31 => ?_)
      have vx_31 := b_sub (rfl : i_2.toInt = _) (rfl : p1.toInt = _) ex_31 (by omega) (by omega)
      refine lv_iconst (v := 5) hx hb dX9_scanNumber_27 (by decide) ?_
      refine lv_icmp_ge (tgt := 46) hx hb dX9_scanNumber_28 (by decide) (fun c_32 => ?_) (fun c_32 => ?_)
      · skip
        have uc_32 := i_ge (n := 5) (by decide) c_32
        obtain ⟨x_33, ex_33⟩ : ∃ y : Int32, y = i_2 + 1 := ⟨_, rfl⟩
        have vx_33 := b_add (rfl : i_2.toInt = _) (by decide : (1 : Int32).toInt = 1) ex_33 (by omega) (by omega)
        refine lv_iinc (v := x_33) (lv' := [(3, .int x_33), (2, .int i_1), (0, .ref h0), (1, .int p1)]) hx hb dX9_scanNumber_46 hl (k := 0) rfl (by rw [ex_33]; rfl) (by decide) rfl (fun ls hl => ?_)
        refine lv_goto (tgt := 4) hx hb dX9_scanNumber_49 (by decide) ?_
        exact ih_5 ⟨i_1, x_33, σ_3, ρ_20⟩ _ _ _ ⟨(by omega), (by omega), (by omega), (by omega), (by have z : (0 : Int32).toInt = 0 := (by decide); omega), hB, hS, lv_sub hl [0, 1, 2, 3] rfl⟩ (by show (400 - x_33.toInt).toNat < (400 - i_2.toInt).toNat; omega)
      · skip
        have uc_32 := i_nge (n := 5) (by decide) c_32
        refine lv_iload_n hx hb dX9_scanNumber_31 rfl (lv_at hl 1 rfl) ?_
        refine lv_bipush (v := 10) hx hb dX9_scanNumber_32 (by decide) ?_
        refine lv_imul hx hb dX9_scanNumber_34 ?_
        refine lv_topi (fun x_34 ex_34 => ?_)
        have vx_34 := b_mul (rfl : i_1.toInt = _) (by decide : (10 : Int32).toInt = 10) ex_34 (by omega) (by omega)
        refine lv_aload_n hx hb dX9_scanNumber_35 rfl (lv_at hl 2 rfl) ?_
        refine t_gk hx hb hts hown hK hB mh0 th0 fq_9_0 hb_17 mw_1_36 dX9_scanNumber_36 ?_
        refine lv_iload_n hx hb dX9_scanNumber_39 rfl (lv_at hl 0 rfl) ?_
        refine t_ai hx hb hK hB mb_17 tb_17 ai_51 (fun _ => rfl) (i_in (by omega) (by omega)) dX9_scanNumber_40 (fun x_35 ex_35 lx_35 ux_35 => ?_)
        have qx_35 : x_35 = x_18 := ex_35.trans ex_18.symm
        have qx_35 := qx_35.symm
        subst qx_35
        refine lv_iadd hx hb dX9_scanNumber_41 ?_
        refine lv_topi (fun x_36 ex_36 => ?_)
        have vx_36 := b_add (rfl : x_34.toInt = _) (rfl : x_18.toInt = _) ex_36 (by omega) (by omega)
        refine lv_bipush (v := 48) hx hb dX9_scanNumber_42 (by decide) ?_
        refine lv_isub hx hb dX9_scanNumber_44 ?_
        refine lv_topi (fun x_37 ex_37 => ?_)
        have vx_37 := b_sub (rfl : x_36.toInt = _) (by decide : (48 : Int32).toInt = 48) ex_37 (by omega) (by omega)
        refine lv_istore_n (lv' := [(2, .int x_37), (3, .int i_2), (0, .ref h0), (1, .int p1)]) hx hb dX9_scanNumber_45 rfl hl (by decide) rfl (fun ls hl => ?_)
        obtain ⟨x_38, ex_38⟩ : ∃ y : Int32, y = i_2 + 1 := ⟨_, rfl⟩
        have vx_38 := b_add (rfl : i_2.toInt = _) (by decide : (1 : Int32).toInt = 1) ex_38 (by omega) (by omega)
        refine lv_iinc (v := x_38) (lv' := [(3, .int x_38), (2, .int x_37), (0, .ref h0), (1, .int p1)]) hx hb dX9_scanNumber_46 hl (k := 1) rfl (by rw [ex_38]; rfl) (by decide) rfl (fun ls hl => ?_)
        refine lv_goto (tgt := 4) hx hb dX9_scanNumber_49 (by decide) ?_
        exact ih_5 ⟨x_37, x_38, σ_3, ρ_20⟩ _ _ _ ⟨(by omega), (by omega), (by omega), (by omega), (by have z : (0 : Int32).toInt = 0 := (by decide); omega), hB, hS, lv_sub hl [0, 1, 2, 3] rfl⟩ (by show (400 - x_38.toInt).toNat < (400 - i_2.toInt).toNat; omega)
