theorem mw_5_224 : (.fieldLink RX12 102 "HillBendsModel" "next" "I" : Cond) ∈ wsA := wsA_t (List.mem_append_right _ (List.mem_append_right _ (List.mem_append_right _ (List.mem_append_right _ (List.mem_append_left _ (List.mem_of_getElem? (l := tables_1_5) (i := 224) rfl)))))) rfl
theorem dX12_see_0 : decode cX12_see 0 = .ok (.aload_n 0, 1) := by decide +kernel
theorem dX12_see_1 : decode cX12_see 1 = .ok (.getfield 102, 3) := by decide +kernel
theorem dX12_see_4 : decode cX12_see 4 = .ok (.aload_n 0, 1) := by decide +kernel
theorem dX12_see_5 : decode cX12_see 5 = .ok (.getfield 92, 3) := by decide +kernel
theorem dX12_see_8 : decode cX12_see 8 = .ok (.if_icmp .ge 30, 3) := by decide +kernel
theorem dX12_see_11 : decode cX12_see 11 = .ok (.aload_n 0, 1) := by decide +kernel
theorem dX12_see_12 : decode cX12_see 12 = .ok (.getfield 7, 3) := by decide +kernel
theorem dX12_see_15 : decode cX12_see 15 = .ok (.aload_n 0, 1) := by decide +kernel
theorem dX12_see_16 : decode cX12_see 16 = .ok (.getfield 102, 3) := by decide +kernel
theorem dX12_see_19 : decode cX12_see 19 = .ok (.baload, 1) := by decide +kernel
theorem dX12_see_20 : decode cX12_see 20 = .ok (.bipush 32, 2) := by decide +kernel
theorem dX12_see_22 : decode cX12_see 22 = .ok (.if_icmp .ne 16, 3) := by decide +kernel
theorem dX12_see_25 : decode cX12_see 25 = .ok (.aload_n 0, 1) := by decide +kernel
theorem dX12_see_26 : decode cX12_see 26 = .ok (.dup, 1) := by decide +kernel
theorem dX12_see_27 : decode cX12_see 27 = .ok (.getfield 102, 3) := by decide +kernel
theorem dX12_see_30 : decode cX12_see 30 = .ok (.iconst 1, 1) := by decide +kernel
theorem dX12_see_31 : decode cX12_see 31 = .ok (.iadd, 1) := by decide +kernel
theorem dX12_see_32 : decode cX12_see 32 = .ok (.putfield 102, 3) := by decide +kernel
theorem dX12_see_35 : decode cX12_see 35 = .ok (.goto (-35), 3) := by decide +kernel
theorem dX12_see_38 : decode cX12_see 38 = .ok (.aload_n 0, 1) := by decide +kernel
theorem dX12_see_39 : decode cX12_see 39 = .ok (.getfield 102, 3) := by decide +kernel
theorem dX12_see_42 : decode cX12_see 42 = .ok (.aload_n 0, 1) := by decide +kernel
theorem dX12_see_43 : decode cX12_see 43 = .ok (.getfield 92, 3) := by decide +kernel
theorem dX12_see_46 : decode cX12_see 46 = .ok (.if_icmp .ge 19, 3) := by decide +kernel
theorem dX12_see_65 : decode cX12_see 65 = .ok (.iconst (-1), 1) := by decide +kernel
theorem dX12_see_66 : decode cX12_see 66 = .ok (.ireturn, 1) := by decide +kernel
theorem dX12_see_49 : decode cX12_see 49 = .ok (.aload_n 0, 1) := by decide +kernel
theorem dX12_see_50 : decode cX12_see 50 = .ok (.getfield 7, 3) := by decide +kernel
theorem dX12_see_53 : decode cX12_see 53 = .ok (.aload_n 0, 1) := by decide +kernel
theorem dX12_see_54 : decode cX12_see 54 = .ok (.getfield 102, 3) := by decide +kernel
theorem dX12_see_57 : decode cX12_see 57 = .ok (.baload, 1) := by decide +kernel
theorem dX12_see_58 : decode cX12_see 58 = .ok (.sipush 255, 3) := by decide +kernel
theorem dX12_see_61 : decode cX12_see 61 = .ok (.iand, 1) := by decide +kernel
theorem dX12_see_62 : decode cX12_see 62 = .ok (.goto 4, 3) := by decide +kernel
set_option maxHeartbeats 4000000 in
set_option maxRecDepth 100000 in
theorem cy_X12_see (l : Launch) (D : va_G) (cA : Nat → ClassId) (L : List Nat) (T : Nat → Nat) (r : Rg) (hG : GR L T r) (hL : L.Nodup) (σ : Sg) (ρ : Lg) (hW : WT L ry T σ) (sz : Nat) (h0 : Nat) (mh0 : h0 ∈ L) (th0 : T h0 = 12) : Met l yX12_see (.code yX12_see cX12_see 1 (some .int) :: wsA) ({ frames := 0, cells := 0, slots := 0, locals := 0 }) (PR D cA L T r σ ρ sz [.ref h0]) (QI D cA L T r ry [(12, 8)] σ sz (fun x σ1 => ((-1) ≤ x.toInt ∧ x.toInt ≤ 255) ∧ ((σ h0 8).toInt ≤ (σ1 h0 8).toInt) ∧ (0 ≤ x.toInt → (σ1 h0 8).toInt < (σ1 h0 1).toInt))) 0 0 (dm L sz) := by
  refine Met.ofW (cc := cX12_see) (maxL := 1) (ret := (some .int)) (by decide) rfl ?_
  intro p e s m args below meth c s₁ B hml hv
  obtain ⟨rfl, hsz, hP, hK, hN⟩ := hv
  have hx := B.exec
  have hb := B.bytes
  have hr := B.returns
  have hts : ∀ w ∈ wsA, w.before _ s = true := fun w h => atoms_spec (ws := .code yX12_see cX12_see 1 (some .int) :: wsA) B.pre w (List.mem_cons_of_mem _ h)
  have hown : s.vm.findClass RX12 = some m.cls := findClass_of_methodNamed B.named
  subst hsz
  have hLA : LA (dm L s.heap.size) L := ⟨hL, fun a h => Or.inl h⟩
  have hA : ∀ q : Nat, s.heap.size ≤ q → dm L s.heap.size q := fun q h => Or.inr h
  have hS : va_S (dm L s.heap.size) s.heap s.heap [] := va_S.rf
  have hB : TS D cA L T r ry [(12, 8)] σ σ ρ s.heap := ⟨hP, hW, FR.rf⟩
  have hl := lv_entry ([.ref h0]) (n := 1) (Nat.le_of_ble_eq_true rfl)
  rw [lg_entry_eq]
  generalize (lg_sl ([.ref h0]) ++ List.replicate (1 - (lg_sl ([.ref h0])).length) Slot.unset).toArray = ls at hl ⊢
  have hl : lv_has ls 1 [(0, .ref h0)] := hl
  have w_1 : 0 ≤ (σ h0 8).toInt ∧ (σ h0 8).toInt ≤ 400 := by have z := hB.2.1 h0 mh0 8; rw [th0] at z; exact z
  have w_2 : 0 ≤ (σ h0 1).toInt ∧ (σ h0 1).toInt ≤ 400 := by have z := hB.2.1 h0 mh0 1; rw [th0] at z; exact z
  refine w_loop (α := Sg × Lg) (fun (σ_3, ρ_4) H locs ls => σ_3 h0 1 = (σ h0 1) ∧ ((σ h0 8).toInt ≤ (σ_3 h0 8).toInt) ∧ TS D cA L T r ry [(12, 8)] σ σ_3 ρ_4 H ∧ va_S (dm L s.heap.size) s.heap H locs ∧ lv_has ls 1 [(0, .ref h0)]) (fun (σ_3, ρ_4) => (400 - (σ_3 h0 8).toInt).toNat) ?_ ⟨σ, ρ⟩ ⟨rfl, (by omega), hB, hS, lv_sub hl [0] rfl⟩
  rintro ⟨σ_3, ρ_4⟩ H locs ls ⟨k_6, g_7, hB, hS, hl⟩ ih_5
  have w_8 : 0 ≤ (σ_3 h0 8).toInt ∧ (σ_3 h0 8).toInt ≤ 400 := by have z := hB.2.1 h0 mh0 8; rw [th0] at z; exact z
  refine lv_aload_n hx hb dX12_see_0 rfl (lv_at hl 0 rfl) ?_
  refine t_gv hx hb hts hown hK hB mh0 th0 fi_12_8 rfl mw_5_224 dX12_see_1 ?_
  refine lv_aload_n hx hb dX12_see_4 rfl (lv_at hl 0 rfl) ?_
  refine t_gv hx hb hts hown hK hB mh0 th0 fi_12_1 k_6 mw_5_217 dX12_see_5 ?_
  refine lv_icmp_ge (tgt := 38) hx hb dX12_see_8 (by decide) (fun c_9 => ?_) (fun c_9 => ?_)
  · skip
    have uc_9 := j_le c_9
    refine lv_aload_n hx hb dX12_see_38 rfl (lv_at hl 0 rfl) ?_
    refine t_gv hx hb hts hown hK hB mh0 th0 fi_12_8 rfl mw_5_224 dX12_see_39 ?_
    refine lv_aload_n hx hb dX12_see_42 rfl (lv_at hl 0 rfl) ?_
    refine t_gv hx hb hts hown hK hB mh0 th0 fi_12_1 k_6 mw_5_217 dX12_see_43 ?_
    refine lv_icmp_ge (tgt := 65) hx hb dX12_see_46 (by decide) (fun c_10 => ?_) (fun c_10 => ?_)
    · skip
      have uc_10 := j_le c_10
      refine lv_iconst (v := (-1)) hx hb dX12_see_65 (by decide) ?_
      exact W.iret (v := (-1)) hx hb hr (fun t ht hW => ⟨⟨(-1), (σ_3, ρ_4), rfl, ⟨hB.2.1, hB.2.2, ⟨(show (-1) ≤ ((-1) : Int32).toInt ∧ ((-1) : Int32).toInt ≤ 255 from ⟨by decide, by decide⟩), (show (σ h0 8).toInt ≤ (σ_3 h0 8).toInt from (by omega)), (show 0 ≤ ((-1) : Int32).toInt → (σ_3 h0 8).toInt < (σ_3 h0 1).toInt from (fun h => absurd h (by decide)))⟩⟩, (show TP D cA L T r σ_3 ρ_4 t.heap from by rw [ht]; exact hB.1)⟩, hS.F ht⟩) hS.2.2 dX12_see_66
    · skip
      have uc_10 := j_nle c_10
      refine lv_aload_n hx hb dX12_see_49 rfl (lv_at hl 0 rfl) ?_
      refine t_gr hx hb hts hown hK hG hB mh0 th0 fq_12_0 rfl mw_5_216 dX12_see_50 (fun b_11 hb_11 mb_11 tb_11 => ?_)
      refine lv_aload_n hx hb dX12_see_53 rfl (lv_at hl 0 rfl) ?_
      refine t_gv hx hb hts hown hK hB mh0 th0 fi_12_8 rfl mw_5_224 dX12_see_54 ?_
      refine t_ab hx hb hK hB mb_11 tb_11 ai_61 (fun _ => rfl) (i_in (by omega) (by omega)) dX12_see_57 (fun x_12 ex_12 lx_12 ux_12 => ?_)
      have cx_12 := congrArg Int32.toInt ex_12
      refine lv_sipush (v := 255) hx hb dX12_see_58 (by decide) ?_
      refine lv_iand hx hb dX12_see_61 ?_
      refine lv_topi (fun x_13 ex_13 => ?_)
      obtain ⟨lx_13, ux_13⟩ := and_m 8 (n := 255) (by decide) (by decide) (by decide) ex_13
      refine lv_goto (tgt := 66) hx hb dX12_see_62 (by decide) ?_
      exact W.iret (v := x_13) hx hb hr (fun t ht hW => ⟨⟨x_13, (σ_3, ρ_4), rfl, ⟨hB.2.1, hB.2.2, ⟨(show (-1) ≤ (x_13 : Int32).toInt ∧ (x_13 : Int32).toInt ≤ 255 from ⟨by omega, by omega⟩), (show (σ h0 8).toInt ≤ (σ_3 h0 8).toInt from (by omega)), (show 0 ≤ (x_13 : Int32).toInt → (σ_3 h0 8).toInt < (σ_3 h0 1).toInt from (fun h => (by rw [k_6]; omega)))⟩⟩, (show TP D cA L T r σ_3 ρ_4 t.heap from by rw [ht]; exact hB.1)⟩, hS.F ht⟩) hS.2.2 dX12_see_66
  · skip
    have uc_9 := j_nle c_9
    refine lv_aload_n hx hb dX12_see_11 rfl (lv_at hl 0 rfl) ?_
    refine t_gr hx hb hts hown hK hG hB mh0 th0 fq_12_0 rfl mw_5_216 dX12_see_12 (fun b_14 hb_14 mb_14 tb_14 => ?_)
    refine lv_aload_n hx hb dX12_see_15 rfl (lv_at hl 0 rfl) ?_
    refine t_gv hx hb hts hown hK hB mh0 th0 fi_12_8 rfl mw_5_224 dX12_see_16 ?_
    refine t_ab hx hb hK hB mb_14 tb_14 ai_61 (fun _ => rfl) (i_in (by omega) (by omega)) dX12_see_19 (fun x_15 ex_15 lx_15 ux_15 => ?_)
    have cx_15 := congrArg Int32.toInt ex_15
    refine lv_bipush (v := 32) hx hb dX12_see_20 (by decide) ?_
    refine lv_icmp_ne (tgt := 38) hx hb dX12_see_22 (by decide) (fun c_16 => ?_) (fun c_16 => ?_)
    · skip
      have uc_16 := i_ne (n := 32) (by decide) c_16
      refine lv_aload_n hx hb dX12_see_38 rfl (lv_at hl 0 rfl) ?_
      refine t_gv hx hb hts hown hK hB mh0 th0 fi_12_8 rfl mw_5_224 dX12_see_39 ?_
      refine lv_aload_n hx hb dX12_see_42 rfl (lv_at hl 0 rfl) ?_
      refine t_gv hx hb hts hown hK hB mh0 th0 fi_12_1 k_6 mw_5_217 dX12_see_43 ?_
      refine lv_icmp_ge (tgt := 65) hx hb dX12_see_46 (by decide) (fun c_17 => ?_) (fun c_17 => ?_)
      · skip
        have uc_17 := j_le c_17
        refine lv_iconst (v := (-1)) hx hb dX12_see_65 (by decide) ?_
        exact W.iret (v := (-1)) hx hb hr (fun t ht hW => ⟨⟨(-1), (σ_3, ρ_4), rfl, ⟨hB.2.1, hB.2.2, ⟨(show (-1) ≤ ((-1) : Int32).toInt ∧ ((-1) : Int32).toInt ≤ 255 from ⟨by decide, by decide⟩), (show (σ h0 8).toInt ≤ (σ_3 h0 8).toInt from (by omega)), (show 0 ≤ ((-1) : Int32).toInt → (σ_3 h0 8).toInt < (σ_3 h0 1).toInt from (fun h => absurd h (by decide)))⟩⟩, (show TP D cA L T r σ_3 ρ_4 t.heap from by rw [ht]; exact hB.1)⟩, hS.F ht⟩) hS.2.2 dX12_see_66
      · skip
        have uc_17 := j_nle c_17
        refine lv_aload_n hx hb dX12_see_49 rfl (lv_at hl 0 rfl) ?_
        refine t_gk hx hb hts hown hK hB mh0 th0 fq_12_0 hb_14 mw_5_216 dX12_see_50 ?_
        refine lv_aload_n hx hb dX12_see_53 rfl (lv_at hl 0 rfl) ?_
        refine t_gv hx hb hts hown hK hB mh0 th0 fi_12_8 rfl mw_5_224 dX12_see_54 ?_
        refine t_ab hx hb hK hB mb_14 tb_14 ai_61 (fun _ => rfl) (i_in (by omega) (by omega)) dX12_see_57 (fun x_18 ex_18 lx_18 ux_18 => ?_)
        have qx_18 : x_18 = x_15 := ex_18.trans ex_15.symm
        have qx_18 := qx_18.symm
        subst qx_18
        refine lv_sipush (v := 255) hx hb dX12_see_58 (by decide) ?_
        refine lv_iand hx hb dX12_see_61 ?_
        refine lv_topi (fun x_19 ex_19 => ?_)
        obtain ⟨lx_19, ux_19⟩ := and_m 8 (n := 255) (by decide) (by decide) (by decide) ex_19
        refine lv_goto (tgt := 66) hx hb dX12_see_62 (by decide) ?_
        exact W.iret (v := x_19) hx hb hr (fun t ht hW => ⟨⟨x_19, (σ_3, ρ_4), rfl, ⟨hB.2.1, hB.2.2, ⟨(show (-1) ≤ (x_19 : Int32).toInt ∧ (x_19 : Int32).toInt ≤ 255 from ⟨by omega, by omega⟩), (show (σ h0 8).toInt ≤ (σ_3 h0 8).toInt from (by omega)), (show 0 ≤ (x_19 : Int32).toInt → (σ_3 h0 8).toInt < (σ_3 h0 1).toInt from (fun h => (by rw [k_6]; omega)))⟩⟩, (show TP D cA L T r σ_3 ρ_4 t.heap from by rw [ht]; exact hB.1)⟩, hS.F ht⟩) hS.2.2 dX12_see_66
    · skip
      have uc_16 := i_eq (n := 32) (by decide) c_16
      refine lv_aload_n hx hb dX12_see_25 rfl (lv_at hl 0 rfl) ?_
      refine lv_dup hx hb dX12_see_26 rfl ?_
      refine t_gv hx hb hts hown hK hB mh0 th0 fi_12_8 rfl mw_5_224 dX12_see_27 ?_
      refine lv_iconst (v := 1) hx hb dX12_see_30 (by decide) ?_
      refine lv_iadd hx hb dX12_see_31 ?_
      refine lv_topi (fun x_20 ex_20 => ?_)
      have vx_20 := b_add (rfl : (σ_3 h0 8).toInt = _) (by decide : (1 : Int32).toInt = 1) ex_20 (by omega) (by omega)
      refine t_pi hx hb hts hown hK hLA hB hS mh0 th0 fi_12_8 rfl rfl rfl (by first | omega | (subst_vars; omega)) (by first | omega | (subst_vars; omega)) (Or.inl (by decide)) mw_5_224 dX12_see_32 (fun H locs σ_21 eσ_21 hB hS => ?_)
      have k_22 : σ_21 h0 8 = x_20 := by rw [eσ_21]; exact up2_same _ _ _ _
      refine lv_goto (tgt := 0) hx hb dX12_see_35 (by decide) ?_
      have k_23 : σ_21 h0 1 = (σ h0 1) := by rw [eσ_21, up2_nej _ _ (by decide)]; exact k_6
      exact ih_5 ⟨σ_21, ρ_4⟩ _ _ _ ⟨k_23, (by rw [k_22]; omega), hB, hS, lv_sub hl [0] rfl⟩ (by show (400 - (σ_21 h0 8).toInt).toNat < (400 - (σ_3 h0 8).toInt).toNat; rw [k_22]; omega)
theorem mw_6_149 : (.instanceMethod yX12_isLetter : Cond) ∈ wsA := wsA_t (List.mem_append_right _ (List.mem_append_right _ (List.mem_append_right _ (List.mem_append_right _ (List.mem_append_right _ (List.mem_append_left _ (List.mem_of_getElem? (l := tables_1_6) (i := 149) rfl))))))) rfl
theorem mp_4_0 : (.selects RX12 yX12_isLetter yX12_isLetter : Cond) ∈ wsA := wsA_p (q := (yX12_isLetter, 44)) (List.mem_append_right _ (List.mem_append_right _ (List.mem_append_right _ (List.mem_append_left _ (List.mem_of_getElem? (l := lw_privs_4) (i := 0) rfl)))))
theorem mw_6_150 : (.code yX12_isLetter cX12_isLetter 2 (some .boolean) : Cond) ∈ wsA := wsA_t (List.mem_append_right _ (List.mem_append_right _ (List.mem_append_right _ (List.mem_append_right _ (List.mem_append_right _ (List.mem_append_left _ (List.mem_of_getElem? (l := tables_1_6) (i := 150) rfl))))))) rfl
theorem mw_6_147 : (.methodLink RX12 109 yX12_isLetter : Cond) ∈ wsA := wsA_t (List.mem_append_right _ (List.mem_append_right _ (List.mem_append_right _ (List.mem_append_right _ (List.mem_append_right _ (List.mem_append_left _ (List.mem_of_getElem? (l := tables_1_6) (i := 147) rfl))))))) rfl
theorem dX12_passWord_0 : decode cX12_passWord 0 = .ok (.aload_n 0, 1) := by decide +kernel
theorem dX12_passWord_1 : decode cX12_passWord 1 = .ok (.aload_n 0, 1) := by decide +kernel
theorem dX12_passWord_2 : decode cX12_passWord 2 = .ok (.getfield 102, 3) := by decide +kernel
theorem dX12_passWord_5 : decode cX12_passWord 5 = .ok (.invokevirtual 109, 3) := by decide +kernel
theorem dX12_passWord_8 : decode cX12_passWord 8 = .ok (.ifCond .eq 16, 3) := by decide +kernel
theorem dX12_passWord_11 : decode cX12_passWord 11 = .ok (.aload_n 0, 1) := by decide +kernel
theorem dX12_passWord_12 : decode cX12_passWord 12 = .ok (.dup, 1) := by decide +kernel
theorem dX12_passWord_13 : decode cX12_passWord 13 = .ok (.getfield 102, 3) := by decide +kernel
theorem dX12_passWord_16 : decode cX12_passWord 16 = .ok (.iconst 1, 1) := by decide +kernel
theorem dX12_passWord_17 : decode cX12_passWord 17 = .ok (.iadd, 1) := by decide +kernel
theorem dX12_passWord_18 : decode cX12_passWord 18 = .ok (.putfield 102, 3) := by decide +kernel
theorem dX12_passWord_21 : decode cX12_passWord 21 = .ok (.goto (-21), 3) := by decide +kernel
theorem dX12_passWord_24 : decode cX12_passWord 24 = .ok (.return_, 1) := by decide +kernel
theorem mv_X12_isLetter : MV RX12 yX12_isLetter cX12_isLetter 2 (some .boolean) 1 := ⟨mw_6_149, mp_4_0, mw_1_13, mw_6_150, ⟨rfl, by decide, by decide, by decide +kernel⟩⟩
set_option maxHeartbeats 4000000 in
set_option maxRecDepth 100000 in
theorem cy_X12_passWord (l : Launch) (D : va_G) (cA : Nat → ClassId) (L : List Nat) (T : Nat → Nat) (r : Rg) (hG : GR L T r) (hL : L.Nodup) (σ : Sg) (ρ : Lg) (hW : WT L ry T σ) (sz : Nat) (h0 : Nat) (mh0 : h0 ∈ L) (th0 : T h0 = 12) : Met l yX12_passWord (.code yX12_passWord cX12_passWord 1 none :: wsA) ({ frames := 1, cells := 0, slots := 0, locals := 21 }) (PR D cA L T r σ ρ sz [.ref h0]) (QV D cA L T r ry [(12, 8)] σ sz (fun σ1 => ((σ h0 8).toInt ≤ (σ1 h0 8).toInt))) 0 0 (dm L sz) := by
  refine Met.ofW (cc := cX12_passWord) (maxL := 1) (ret := none) (by decide) rfl ?_
  intro p e s m args below meth c s₁ B hml hv
  obtain ⟨rfl, hsz, hP, hK, hN⟩ := hv
  have hx := B.exec
  have hb := B.bytes
  have hr := B.returns
  have hts : ∀ w ∈ wsA, w.before _ s = true := fun w h => atoms_spec (ws := .code yX12_passWord cX12_passWord 1 none :: wsA) B.pre w (List.mem_cons_of_mem _ h)
  have hown : s.vm.findClass RX12 = some m.cls := findClass_of_methodNamed B.named
  subst hsz
  have hLA : LA (dm L s.heap.size) L := ⟨hL, fun a h => Or.inl h⟩
  have hA : ∀ q : Nat, s.heap.size ≤ q → dm L s.heap.size q := fun q h => Or.inr h
  have hS : va_S (dm L s.heap.size) s.heap s.heap [] := va_S.rf
  have hB : TS D cA L T r ry [(12, 8)] σ σ ρ s.heap := ⟨hP, hW, FR.rf⟩
  have hl := lv_entry ([.ref h0]) (n := 1) (Nat.le_of_ble_eq_true rfl)
  rw [lg_entry_eq]
  generalize (lg_sl ([.ref h0]) ++ List.replicate (1 - (lg_sl ([.ref h0])).length) Slot.unset).toArray = ls at hl ⊢
  have hl : lv_has ls 1 [(0, .ref h0)] := hl
  have w_1 : 0 ≤ (σ h0 8).toInt ∧ (σ h0 8).toInt ≤ 400 := by have z := hB.2.1 h0 mh0 8; rw [th0] at z; exact z
  have w_2 : 0 ≤ (σ h0 1).toInt ∧ (σ h0 1).toInt ≤ 400 := by have z := hB.2.1 h0 mh0 1; rw [th0] at z; exact z
  refine w_loop (α := Sg × Lg) (fun (σ_3, ρ_4) H locs ls => σ_3 h0 1 = (σ h0 1) ∧ ((σ h0 8).toInt ≤ (σ_3 h0 8).toInt) ∧ TS D cA L T r ry [(12, 8)] σ σ_3 ρ_4 H ∧ va_S (dm L s.heap.size) s.heap H locs ∧ lv_has ls 1 [(0, .ref h0)]) (fun (σ_3, ρ_4) => (400 - (σ_3 h0 8).toInt).toNat) ?_ ⟨σ, ρ⟩ ⟨rfl, (by omega), hB, hS, lv_sub hl [0] rfl⟩
  rintro ⟨σ_3, ρ_4⟩ H locs ls ⟨k_6, g_7, hB, hS, hl⟩ ih_5
  have w_8 : 0 ≤ (σ_3 h0 8).toInt ∧ (σ_3 h0 8).toInt ≤ 400 := by have z := hB.2.1 h0 mh0 8; rw [th0] at z; exact z
  have cq1 := congrArg Int32.toInt k_6
  refine lv_aload_n hx hb dX12_passWord_0 rfl (lv_at hl 0 rfl) ?_
  refine lv_aload_n hx hb dX12_passWord_1 rfl (lv_at hl 0 rfl) ?_
  refine t_gv hx hb hts hown hK hB mh0 th0 fi_12_8 rfl mw_5_224 dX12_passWord_2 ?_
  refine t_ci (va_runV (As := [.int (σ_3 h0 8)]) (rest := []) ⟨hx, hb, hml, hown, hts⟩ (cy_X12_isLetter l D cA L T r hG hLA.1 σ_3 ρ_4 hB.2.1 _ h0 mh0 th0 ((σ_3 h0 8)) (by first | omega | decide)) (cV hts mv_X12_isLetter mw_6_147 rfl rfl ⟨Nat.le_of_ble_eq_true rfl, Nat.le_of_ble_eq_true rfl⟩) (pV hB.1 hK hN mh0 th0 (show shp cA 12 _ _ _ = .inr (12, Fs12 _ _ _) from rfl) rfl) rfl rfl hl.1 rfl (lv_room (Nat.le_of_ble_eq_true rfl)) dX12_passWord_5 ⟨Nat.le_of_ble_eq_true rfl, Nat.le_of_ble_eq_true rfl⟩) hLA hA hB hS (by decide) (fun x_11 σ_9 ρ_10 H locs hB fσ_9 pσ_9 hS => ?_)
  have qσ_9 := FR.nil fσ_9
  subst qσ_9
  obtain ⟨ox_11, ix_11⟩ := pσ_9
  refine lv_if_eq (tgt := 24) hx hb dX12_passWord_8 (by decide) (fun c_12 => ?_) (fun c_12 => ?_)
  · skip
    have uc_12 := i_eq (n := 0) (by decide) c_12
    exact W.vret hx hb hr (fun t ht hW => ⟨⟨(σ_3, ρ_10), rfl, ⟨hB.2.1, hB.2.2, (show (σ h0 8).toInt ≤ (σ_3 h0 8).toInt from (by omega))⟩, (show TP D cA L T r σ_3 ρ_10 t.heap from by rw [ht]; exact hB.1)⟩, hS.F ht⟩) hS.2.2 dX12_passWord_24
  · skip
    have uc_12 := i_ne (n := 0) (by decide) c_12
    refine lv_aload_n hx hb dX12_passWord_11 rfl (lv_at hl 0 rfl) ?_
    refine lv_dup hx hb dX12_passWord_12 rfl ?_
    refine t_gv hx hb hts hown hK hB mh0 th0 fi_12_8 rfl mw_5_224 dX12_passWord_13 ?_
    refine lv_iconst (v := 1) hx hb dX12_passWord_16 (by decide) ?_
    refine lv_iadd hx hb dX12_passWord_17 ?_
    refine lv_topi (fun x_13 ex_13 => ?_)
    have vx_13 := b_add (rfl : (σ_3 h0 8).toInt = _) (by decide : (1 : Int32).toInt = 1) ex_13 (by omega) (by omega)
    refine t_pi hx hb hts hown hK hLA hB hS mh0 th0 fi_12_8 rfl rfl rfl (by first | omega | (subst_vars; omega)) (by first | omega | (subst_vars; omega)) (Or.inl (by decide)) mw_5_224 dX12_passWord_18 (fun H locs σ_14 eσ_14 hB hS => ?_)
    have k_15 : σ_14 h0 8 = x_13 := by rw [eσ_14]; exact up2_same _ _ _ _
    refine lv_goto (tgt := 0) hx hb dX12_passWord_21 (by decide) ?_
    have k_16 : σ_14 h0 1 = (σ h0 1) := by rw [eσ_14, up2_nej _ _ (by decide)]; exact k_6
    exact ih_5 ⟨σ_14, ρ_10⟩ _ _ _ ⟨k_16, (by rw [k_15]; omega), hB, hS, lv_sub hl [0] rfl⟩ (by show (400 - (σ_14 h0 8).toInt).toNat < (400 - (σ_3 h0 8).toInt).toNat; rw [k_15]; omega)
