theorem mw_5_224 : (.fieldLink RX12 102 "HillBendsModel" "next" "I" : Cond) ∈ wsA := wsA_t (List.mem_append_right _ (List.mem_append_right _ (List.mem_append_right _ (List.mem_append_right _ (List.mem_append_left _ (List.mem_of_getElem? (l := tables_1_5) (i := 224) rfl)))))) rfl
theorem dX12_see_0 : decode cX12_see 0 = .ok (.aload_n 0, 1) := by decide +kernel
theorem dX12_see_1 : decode cX12_see 1 = .ok (.getfield 102, 3) := by decide +kernel
theorem dX12_see_4 : decode cX12_see 4 = .ok (.aload_n 0, 1) := by decide +kernel
theorem dX12_see_5 : decode cX12_see 5 = .ok (.getfield 92, 3) := by decide +kernel
theorem dX12_see_8 : decode cX12_see 8 = .ok (.if_icmp .ge 30, 3) := by decide +kernel
theorem dX12_see_11 : decode cX12_see 11 = .ok (.aload_n 0, 1) := by decide +kernel
theorem dX12_see_12 : decode cX12_see 12 = .ok (.getfield 7, 3) := by decide +kernel
theorem dX12_see_15 : decode cX12_see 15 = .ok (.aload_n 0, 1) := by decide +kernel
theorem dX12_see_16 : decode cX12_see 16 = .ok (.getfield 102, 3) := by decide +kernel
theorem dX12_see_19 : decode cX12_see 19 = .ok (.baload, 1) := by decide +kernel
theorem dX12_see_20 : decode cX12_see 20 = .ok (.bipush 32, 2) := by decide +kernel
theorem dX12_see_22 : decode cX12_see 22 = .ok (.if_icmp .ne 16, 3) := by decide +kernel
theorem dX12_see_25 : decode cX12_see 25 = .ok (.aload_n 0, 1) := by decide +kernel
theorem dX12_see_26 : decode cX12_see 26 = .ok (.dup, 1) := by decide +kernel
theorem dX12_see_27 : decode cX12_see 27 = .ok (.getfield 102, 3) := by decide +kernel
theorem dX12_see_30 : decode cX12_see 30 = .ok (.iconst 1, 1) := by decide +kernel
theorem dX12_see_31 : decode cX12_see 31 = .ok (.iadd, 1) := by decide +kernel
theorem dX12_see_32 : decode cX12_see 32 = .ok (.putfield 102, 3) := by decide +kernel
theorem dX12_see_35 : decode cX12_see 35 = .ok (.goto (-35), 3) := by decide +kernel
theorem dX12_see_38 : decode cX12_see 38 = .ok (.aload_n 0, 1) := by decide +kernel
theorem dX12_see_39 : decode cX12_see 39 = .ok (.getfield 102, 3) := by decide +kernel
theorem dX12_see_42 : decode cX12_see 42 = .ok (.aload_n 0, 1) := by decide +kernel
theorem dX12_see_43 : decode cX12_see 43 = .ok (.getfield 92, 3) := by decide +kernel
theorem dX12_see_46 : decode cX12_see 46 = .ok (.if_icmp .ge 19, 3) := by decide +kernel
theorem dX12_see_65 : decode cX12_see 65 = .ok (.iconst (-1), 1) := by decide +kernel
theorem dX12_see_66 : decode cX12_see 66 = .ok (.ireturn, 1) := by decide +kernel
theorem dX12_see_49 : decode cX12_see 49 = .ok (.aload_n 0, 1) := by decide +kernel
theorem dX12_see_50 : decode cX12_see 50 = .ok (.getfield 7, 3) := by decide +kernel
theorem dX12_see_53 : decode cX12_see 53 = .ok (.aload_n 0, 1) := by decide +kernel
theorem dX12_see_54 : decode cX12_see 54 = .ok (.getfield 102, 3) := by decide +kernel
theorem dX12_see_57 : decode cX12_see 57 = .ok (.baload, 1) := by decide +kernel
theorem dX12_see_58 : decode cX12_see 58 = .ok (.sipush 255, 3) := by decide +kernel
theorem dX12_see_61 : decode cX12_see 61 = .ok (.iand, 1) := by decide +kernel
theorem dX12_see_62 : decode cX12_see 62 = .ok (.goto 4, 3) := by decide +kernel
set_option maxHeartbeats 4000000 in
set_option maxRecDepth 100000 in
theorem cy_X12_see (l : Launch) (D : va_G) (cA : Nat → ClassId) (L : List Nat) (T : Nat → Nat) (r : Rg) (hG : GR L T r) (hL : L.Nodup) (σ : Sg) (ρ : Lg) (hW : WT L ry T σ) (sz : Nat) (h0 : Nat) (mh0 : h0 ∈ L) (th0 : T h0 = 12) : Met l yX12_see (.code yX12_see cX12_see 1 (some .int) :: wsA) ({ frames := 0, cells := 0, slots := 0, locals := 0 }) (PR D cA L T r σ ρ sz [.ref h0]) (QI D cA L T r ry [(12, 8)] σ sz (fun x σ1 => ((-1) ≤ x.toInt ∧ x.toInt ≤ 255) ∧ ((σ h0 8).toInt ≤ (σ1 h0 8).toInt) ∧ (0 ≤ x.toInt → (σ1 h0 8).toInt < (σ1 h0 1).toInt))) 0 0 (dm L sz) := by
  refine Met.ofW (cc := cX12_see) (maxL := 1) (ret := (some .int)) (by decide) rfl ?_
  intro p e s m args below meth c s₁ B hml hv
  obtain ⟨rfl, hsz, hP, hK, hN⟩ := hv
  have hx := B.exec
  have hb := B.bytes
  have hr := B.returns
  have hts : ∀ w ∈ wsA, w.before _ s = true := fun w h => atoms_spec (ws := .code yX12_see cX12_see 1 (some .int) :: wsA) B.pre w (List.mem_cons_of_mem _ h)
  have hown : s.vm.findClass RX12 = some m.cls := findClass_of_methodNamed B.named
  subst hsz
  have hLA : LA (dm L s.heap.size) L := ⟨hL, fun a h => Or.inl h⟩
  have hA : ∀ q : Nat, s.heap.size ≤ q → dm L s.heap.size q := fun q h => Or.inr h
  have hS : va_S (dm L s.heap.size) s.heap s.heap [] := va_S.rf
  have hB : TS D cA L T r ry [(12, 8)] σ σ ρ s.heap := ⟨hP, hW, FR.rf⟩
  have hl := lv_entry ([.ref h0]) (n := 1) (Nat.le_of_ble_eq_true rfl)
  rw [lg_entry_eq]
  generalize (lg_sl ([.ref h0]) ++ List.replicate (1 - (lg_sl ([.ref h0])).length) Slot.unset).toArray = ls at hl ⊢
  have hl : lv_has ls 1 [(0, .ref h0)] := hl
  have w_1 : 0 ≤ (σ h0 8).toInt ∧ (σ h0 8).toInt ≤ 400 := by have z := hB.2.1 h0 mh0 8; rw [th0] at z; exact z
  have w_2 : 0 ≤ (σ h0 1).toInt ∧ (σ h0 1).toInt ≤ 400 := by have z := hB.2.1 h0 mh0 1; rw [th0] at z; exact z
  refine w_loop (α := Sg × Lg) (fun (σ_3, ρ_4) H locs ls => σ_3 h0 1 = (σ h0 1) ∧ ((σ h0 8).toInt ≤ (σ_3 h0 8).toInt) ∧ TS D cA L T r ry [(12, 8)] σ σ_3 ρ_4 H ∧ va_S (dm L s.heap.size) s.heap H locs ∧ lv_has ls 1 [(0, .ref h0)]) (fun (σ_3, ρ_4) => (400 - (σ_3 h0 8).toInt).toNat) ?_ ⟨σ, ρ⟩ ⟨rfl, (by omega), hB, hS, lv_sub hl [0] rfl⟩
  rintro ⟨σ_3, ρ_4⟩ H locs ls ⟨k_6, g_7, hB, hS, hl⟩ ih_5
  have w_8 : 0 ≤ (σ_3 h0 8).toInt ∧ (σ_3 h0 8).toInt ≤ 400 := by have z := hB.2.1 h0 mh0 8; rw [th0] at z; exact z
  refine lv_aload_n hx hb dX12_see_0 rfl (lv_at hl 0 rfl) ?_
  refine t_gv hx hb hts hown hK hB mh0 th0 fi_12_8 rfl mw_5_224 dX12_see_1 ?_
  refine lv_aload_n hx hb dX12_see_4 rfl (lv_at hl 0 rfl) ?_
  refine t_gv hx hb hts hown hK hB mh0 th0 fi_12_1 k_6 mw_5_217 dX12_see_5 ?_
  refine lv_icmp_ge (tgt := 38) hx hb dX12_see_8 (by decide) (fun c_9 => ?_) (fun c_9 => ?_)
  · skip
    have uc_9 := j_le c_9
    refine lv_aload_n hx hb dX12_see_38 rfl (lv_at hl 0 rfl) ?_
    refine t_gv hx hb hts hown hK hB mh0 th0 fi_12_8 rfl mw_5_224 dX12_see_39 ?_
    refine lv_aload_n hx hb dX12_see_42 rfl (lv_at hl 0 rfl) ?_
    refine t_gv hx hb hts hown hK hB mh0 th0 fi_12_1 k_6 mw_5_217 dX12_see_43 ?_
    refine lv_icmp_ge (tgt := 65) hx hb dX12_see_46 (by decide) (fun c_10 => ?_) (fun c_10 => ?_)
    · skip
      have uc_10 := j_le c_10
      refine lv_iconst (v := (-1)) hx hb dX12_see_65 (by decide) ?_
      exact W.iret (v := (-1)) hx hb hr (fun t ht hW => ⟨⟨(-1), (σ_3, ρ_4), rfl, ⟨hB.2.1, hB.2.2, ⟨(show (-1) ≤ ((-1) : Int32).toInt ∧ ((-1) : Int32).toInt ≤ 255 from ⟨by decide, by decide⟩), (show (σ h0 8).toInt ≤ (σ_3 h0 8).toInt from (by omega)), (show 0 ≤ ((-1) : Int32).toInt → (σ_3 h0 8).toInt < (σ_3 h0 1).toInt from (fun h => absurd h (by decide)))⟩⟩, (show TP D cA L T r σ_3 ρ_4 t.heap from by rw [ht]; exact hB.1)⟩, hS.F ht⟩) hS.2.2 dX12_see_66
    · skip
      have uc_10 := j_nle c_10
      refine lv_aload_n hx hb dX12_see_49 rfl (lv_at hl 0 rfl) ?_
      refine t_gr hx hb hts hown hK hG hB mh0 th0 fq_12_0 rfl mw_5_216 dX12_see_50 (fun b_11 hb_11 mb_11 tb_11 => ?_)
      refine lv_aload_n hx hb dX12_see_53 rfl (lv_at hl 0 rfl) ?_
      refine t_gv hx hb hts hown hK hB mh0 th0 fi_12_8 rfl mw_5_224 dX12_see_54 ?_
      refine t_ab hx hb hK hB mb_11 tb_11 ai_61 (fun _ => rfl) (i_in (by omega) (by omega)) dX12_see_57 (fun x_12 ex_12 lx_12 ux_12 => ?_)
      have cx_12 := congrArg Int32.toInt ex_12
      refine lv_sipush (v := 255) hx hb dX12_see_58 (by decide) ?_
      refine lv_iand hx hb dX12_see_61 ?_
      refine lv_topi (fun x_13 ex_13 => ?_)
      obtain ⟨lx_13, ux_13⟩ := and_m 8 (n := 255) (by decide) (by decide) (by decide) ex_13
      refine lv_goto (tgt := 66) hx hb dX12_see_62 (by decide) ?_
      exact W.iret (v := x_13) hx hb hr (fun t ht hW => ⟨⟨x_13, (σ_3, ρ_4), rfl, ⟨hB.2.1, hB.2.2, ⟨(show (-1) ≤ (x_13 : Int32).toInt ∧ (x_13 : Int32).toInt ≤ 255 from ⟨by omega, by omega⟩), (show (σ h0 8).toInt ≤ (σ_3 h0 8).toInt from (by omega)), (show 0 ≤ (x_13 : Int32).toInt → (σ_3 h0 8).toInt < (σ_3 h0 1).toInt from (fun h => (by rw [k_6]; omega)))⟩⟩, (show TP D cA L T r σ_3 ρ_4 t.heap from by rw [ht]; exact hB.1)⟩, hS.F ht⟩) hS.2.2 dX12_see_66
  · skip
    have uc_9 := j_nle c_9
    refine lv_aload_n hx hb dX12_see_11 rfl (lv_at hl 0 rfl) ?_
    refine t_gr hx hb hts hown hK hG hB mh0 th0 fq_12_0 rfl mw_5_216 dX12_see_12 (fun b_14 hb_14 mb_14 tb_14 => ?_)
    refine lv_aload_n hx hb dX12_see_15 rfl (lv_at hl 0 rfl) ?_
    refine t_gv hx hb hts hown hK hB mh0 th0 fi_12_8 rfl mw_5_224 dX12_see_16 ?_
    refine t_ab hx hb hK hB mb_14 tb_14 ai_61 (fun _ => rfl) (i_in (by omega) (by omega)) dX12_see_19 (fun x_15 ex_15 lx_15 ux_15 => ?_)
    have cx_15 := congrArg Int32.toInt ex_15
    refine lv_bipush (v := 32) hx hb dX12_see_20 (by decide) ?_
    refine lv_icmp_ne (tgt := 38) hx hb dX12_see_22 (by decide) (fun c_16 => ?_) (fun c_16 => ?_)
    · skip
      have uc_16 := i_ne (n := 32) (by decide) c_16
      refine lv_aload_n hx hb dX12_see_38 rfl (lv_at hl 0 rfl) ?_
      refine t_gv hx hb hts hown hK hB mh0 th0 fi_12_8 rfl mw_5_224 dX12_see_39 ?_
      refine lv_aload_n hx hb dX12_see_42 rfl (lv_at hl 0 rfl) ?_
      refine t_gv hx hb hts hown hK hB mh0 th0 fi_12_1 k_6 mw_5_217 dX12_see_43 ?_
      refine lv_icmp_ge (tgt := 65) hx hb dX12_see_46 (by decide) (fun c_17 => ?_) (fun c_17 => ?_)
      · skip
        have uc_17 := j_le c_17
        refine lv_iconst (v := (-1)) hx hb dX12_see_65 (by decide) ?_
        exact W.iret (v := (-1)) hx hb hr (fun t ht hW => ⟨⟨(-1), (σ_3, ρ_4), rfl, ⟨hB.2.1, hB.2.2, ⟨(show (-1) ≤ ((-1) : Int32).toInt ∧ ((-1) : Int32).toInt ≤ 255 from ⟨by decide, by decide⟩), (show (σ h0 8).toInt ≤ (σ_3 h0 8).toInt from (by omega)), (show 0 ≤ ((-1) : Int32).toInt → (σ_3 h0 8).toInt < (σ_3 h0 1).toInt from (fun h => absurd h (by decide)))⟩⟩, (show TP D cA L T r σ_3 ρ_4 t.heap from by rw [ht]; exact hB.1)⟩, hS.F ht⟩) hS.2.2 dX12_see_66
      · skip
        have uc_17 := j_nle c_17
        refine lv_aload_n hx hb dX12_see_49 rfl (lv_at hl 0 rfl) ?_
        refine t_gk hx hb hts hown hK hB mh0 th0 fq_12_0 hb_14 mw_5_216 dX12_see_50 ?_
        refine lv_aload_n hx hb dX12_see_53 rfl (lv_at hl 0 rfl) ?_
        refine t_gv hx hb hts hown hK hB mh0 th0 fi_12_8 rfl mw_5_224 dX12_see_54 ?_
        refine t_ab hx hb hK hB mb_14 tb_14 ai_61 (fun _ => rfl) (i_in (by omega) (by omega)) dX12_see_57 (fun x_18 ex_18 lx_18 ux_18 => ?_)
        have qx_18 : x_18 = x_15 := ex_18.trans ex_15.symm
        have qx_18 := qx_18.symm
        subst qx_18
        refine lv_sipush (v := 255) hx hb dX12_see_58 (by decide) ?_
        refine lv_iand hx hb dX12_see_61 ?_
        refine lv_topi (fun x_19 ex_19 => ?_)
        obtain ⟨lx_19, ux_19⟩ := and_m 8 (n := 255) (by decide) (by decide) (by decide) ex_19
        refine lv_goto (tgt := 66) hx hb dX12_see_62 (by decide) ?_
        exact W.iret (v := x_19) hx hb hr (fun t ht hW => ⟨⟨x_19, (σ_3, ρ_4), rfl, ⟨hB.2.1, hB.2.2, ⟨(show (-1) ≤ (x_19 : Int32).toInt ∧ (x_19 : Int32).toInt ≤ 255 from ⟨by omega, by omega⟩), (show (σ h0 8).toInt ≤ (σ_3 h0 8).toInt from (by omega)), (show 0 ≤ (x_19 : Int32).toInt → (σ_3 h0 8).toInt < (σ_3 h0 1).toInt from (fun h => (by rw [k_6]; omega)))⟩⟩, (show TP D cA L T r σ_3 ρ_4 t.heap from by rw [ht]; exact hB.1)⟩, hS.F ht⟩) hS.2.2 dX12_see_66
    · skip
      have uc_16 := i_eq (n := 32) (by decide) c_16
      refine lv_aload_n hx hb dX12_see_25 rfl (lv_at hl 0 rfl) ?_
      refine lv_dup hx hb dX12_see_26 rfl ?_
      refine t_gv hx hb hts hown hK hB mh0 th0 fi_12_8 rfl mw_5_224 dX12_see_27 ?_
      refine lv_iconst (v := 1) hx hb dX12_see_30 (by decide) ?_
      refine lv_iadd hx hb dX12_see_31 ?_
      refine lv_topi (fun x_20 ex_20 => ?_)
      have vx_20 := b_add (rfl : (σ_3 h0 8).toInt = _) (by decide : (1 : Int32).toInt = 1) ex_20 (by omega) (by omega)
      refine t_pi hx hb hts hown hK hLA hB hS mh0 th0 fi_12_8 rfl rfl rfl (by first | omega | (subst_vars; omega)) (by first | omega | (subst_vars; omega)) (Or.inl (by decide)) mw_5_224 dX12_see_32 (fun H locs σ_21 eσ_21 hB hS => ?_)
      have k_22 : σ_21 h0 8 = x_20 := by rw [eσ_21]; exact up2_same _ _ _ _
      refine lv_goto (tgt := 0) hx hb dX12_see_35 (by decide) ?_
      have k_23 : σ_21 h0 1 = (σ h0 1) := by rw [eσ_21, up2_nej _ _ (by decide)]; exact k_6
      exact ih_5 ⟨σ_21, ρ_4⟩ _ _ _ ⟨k_23, (by rw [k_22]; omega), hB, hS, lv_sub hl [0] rfl⟩ (by show (400 - (σ_21 h0 8).toInt).toNat < (400 - (σ_3 h0 8).toInt).toNat; rw [k_22]; omega)
theorem mw_6_149 : (.instanceMethod yX12_isLetter : Cond) ∈ wsA := wsA_t (List.mem_append_right _ (List.mem_append_right _ (List.mem_append_right _ (List.mem_append_right _ (List.mem_append_right _ (List.mem_append_left _ (List.mem_of_getElem? (l := tables_1_6) (i := 149) rfl))))))) rfl
theorem mp_4_0 : (.selects RX12 yX12_isLetter yX12_isLetter : Cond) ∈ wsA := wsA_p (q := (yX12_isLetter, 44)) (List.mem_append_right _ (List.mem_append_right _ (List.mem_append_right _ (List.mem_append_left _ (List.mem_of_getElem? (l := lw_privs_4) (i := 0) rfl)))))
theorem mw_6_150 : (.code yX12_isLetter cX12_isLetter 2 (some .boolean) : Cond) ∈ wsA := wsA_t (List.mem_append_right _ (List.mem_append_right _ (List.mem_append_right _ (List.mem_append_right _ (List.mem_append_right _ (List.mem_append_left _ (List.mem_of_getElem? (l := tables_1_6) (i := 150) rfl))))))) rfl
theorem mw_6_147 : (.methodLink RX12 109 yX12_isLetter : Cond) ∈ wsA := wsA_t (List.mem_append_right _ (List.mem_append_right _ (List.mem_append_right _ (List.mem_append_right _ (List.mem_append_right _ (List.mem_append_left _ (List.mem_of_getElem? (l := tables_1_6) (i := 147) rfl))))))) rfl
theorem dX12_passWord_0 : decode cX12_passWord 0 = .ok (.aload_n 0, 1) := by decide +kernel
theorem dX12_passWord_1 : decode cX12_passWord 1 = .ok (.aload_n 0, 1) := by decide +kernel
theorem dX12_passWord_2 : decode cX12_passWord 2 = .ok (.getfield 102, 3) := by decide +kernel
theorem dX12_passWord_5 : decode cX12_passWord 5 = .ok (.invokevirtual 109, 3) := by decide +kernel
theorem dX12_passWord_8 : decode cX12_passWord 8 = .ok (.ifCond .eq 16, 3) := by decide +kernel
theorem dX12_passWord_11 : decode cX12_passWord 11 = .ok (.aload_n 0, 1) := by decide +kernel
theorem dX12_passWord_12 : decode cX12_passWord 12 = .ok (.dup, 1) := by decide +kernel
theorem dX12_passWord_13 : decode cX12_passWord 13 = .ok (.getfield 102, 3) := by decide +kernel
theorem dX12_passWord_16 : decode cX12_passWord 16 = .ok (.iconst 1, 1) := by decide +kernel
theorem dX12_passWord_17 : decode cX12_passWord 17 = .ok (.iadd, 1) := by decide +kernel
theorem dX12_passWord_18 : decode cX12_passWord 18 = .ok (.putfield 102, 3) := by decide +kernel
theorem dX12_passWord_21 : decode cX12_passWord 21 = .ok (.goto (-21), 3) := by decide +kernel
theorem dX12_passWord_24 : decode cX12_passWord 24 = .ok (.return_, 1) := by decide +kernel
theorem mv_X12_isLetter : MV RX12 yX12_isLetter cX12_isLetter 2 (some .boolean) 1 := ⟨mw_6_149, mp_4_0, mw_1_13, mw_6_150, ⟨rfl, by decide, by decide, by decide +kernel⟩⟩
set_option maxHeartbeats 4000000 in
set_option maxRecDepth 100000 in
theorem cy_X12_passWord (l : Launch) (D : va_G) (cA : Nat → ClassId) (L : List Nat) (T : Nat → Nat) (r : Rg) (hG : GR L T r) (hL : L.Nodup) (σ : Sg) (ρ : Lg) (hW : WT L ry T σ) (sz : Nat) (h0 : Nat) (mh0 : h0 ∈ L) (th0 : T h0 = 12) : Met l yX12_passWord (.code yX12_passWord cX12_passWord 1 none :: wsA) ({ frames := 1, cells := 0, slots := 0, locals := 21 }) (PR D cA L T r σ ρ sz [.ref h0]) (QV D cA L T r ry [(12, 8)] σ sz (fun σ1 => ((σ h0 8).toInt ≤ (σ1 h0 8).toInt))) 0 0 (dm L sz) := by
  refine Met.ofW (cc := cX12_passWord) (maxL := 1) (ret := none) (by decide) rfl ?_
  intro p e s m args below meth c s₁ B hml hv
  obtain ⟨rfl, hsz, hP, hK, hN⟩ := hv
  have hx := B.exec
  have hb := B.bytes
  have hr := B.returns
  have hts : ∀ w ∈ wsA, w.before _ s = true := fun w h => atoms_spec (ws := .code yX12_passWord cX12_passWord 1 none :: wsA) B.pre w (List.mem_cons_of_mem _ h)
  have hown : s.vm.findClass RX12 = some m.cls := findClass_of_methodNamed B.named
  subst hsz
  have hLA : LA (dm L s.heap.size) L := ⟨hL, fun a h => Or.inl h⟩
  have hA : ∀ q : Nat, s.heap.size ≤ q → dm L s.heap.size q := fun q h => Or.inr h
  have hS : va_S (dm L s.heap.size) s.heap s.heap [] := va_S.rf
  have hB : TS D cA L T r ry [(12, 8)] σ σ ρ s.heap := ⟨hP, hW, FR.rf⟩
  have hl := lv_entry ([.ref h0]) (n := 1) (Nat.le_of_ble_eq_true rfl)
  rw [lg_entry_eq]
  generalize (lg_sl ([.ref h0]) ++ List.replicate (1 - (lg_sl ([.ref h0])).length) Slot.unset).toArray = ls at hl ⊢
  have hl : lv_has ls 1 [(0, .ref h0)] := hl
  have w_1 : 0 ≤ (σ h0 8).toInt ∧ (σ h0 8).toInt ≤ 400 := by have z := hB.2.1 h0 mh0 8; rw [th0] at z; exact z
  have w_2 : 0 ≤ (σ h0 1).toInt ∧ (σ h0 1).toInt ≤ 400 := by have z := hB.2.1 h0 mh0 1; rw [th0] at z; exact z
  refine w_loop (α := Sg × Lg) (fun (σ_3, ρ_4) H locs ls => σ_3 h0 1 = (σ h0 1) ∧ ((σ h0 8).toInt ≤ (σ_3 h0 8).toInt) ∧ TS D cA L T r ry [(12, 8)] σ σ_3 ρ_4 H ∧ va_S (dm L s.heap.size) s.heap H locs ∧ lv_has ls 1 [(0, .ref h0)]) (fun (σ_3, ρ_4) => (400 - (σ_3 h0 8).toInt).toNat) ?_ ⟨σ, ρ⟩ ⟨rfl, (by omega), hB, hS, lv_sub hl [0] rfl⟩
  rintro ⟨σ_3, ρ_4⟩ H locs ls ⟨k_6, g_7, hB, hS, hl⟩ ih_5
  have w_8 : 0 ≤ (σ_3 h0 8).toInt ∧ (σ_3 h0 8).toInt ≤ 400 := by have z := hB.2.1 h0 mh0 8; rw [th0] at z; exact z
  have cq1 := congrArg Int32.toInt k_6
  refine lv_aload_n hx hb dX12_passWord_0 rfl (lv_at hl 0 rfl) ?_
  refine lv_aload_n hx hb dX12_passWord_1 rfl (lv_at hl 0 rfl) ?_
  refine t_gv hx hb hts hown hK hB mh0 th0 fi_12_8 rfl mw_5_224 dX12_passWord_2 ?_
  refine t_ci (va_runV (As := [.int (σ_3 h0 8)]) (rest := []) ⟨hx, hb, hml, hown, hts⟩ (cy_X12_isLetter l D cA L T r hG hLA.1 σ_3 ρ_4 hB.2.1 _ h0 mh0 th0 ((σ_3 h0 8)) (by first | omega | decide)) (cV hts mv_X12_isLetter mw_6_147 rfl rfl ⟨Nat.le_of_ble_eq_true rfl, Nat.le_of_ble_eq_true rfl⟩) (pV hB.1 hK hN mh0 th0 (show shp cA 12 _ _ _ = .inr (12, Fs12 _ _ _) from rfl) rfl) rfl rfl hl.1 rfl (lv_room (Nat.le_of_ble_eq_true rfl)) dX12_passWord_5 ⟨Nat.le_of_ble_eq_true rfl, Nat.le_of_ble_eq_true rfl⟩) hLA hA hB hS (by decide) (fun x_11 σ_9 ρ_10 H locs hB fσ_9 pσ_9 hS => ?_)
  have qσ_9 := FR.nil fσ_9
  subst qσ_9
  obtain ⟨ox_11, ix_11⟩ := pσ_9
  refine lv_if_eq (tgt := 24) hx hb dX12_passWord_8 (by decide) (fun c_12 => ?_) (fun c_12 => ?_)
  · skip
    have uc_12 := i_eq (n := 0) (by decide) c_12
    exact W.vret hx hb hr (fun t ht hW => ⟨⟨(σ_3, ρ_10), rfl, ⟨hB.2.1, hB.2.2, (show (σ h0 8).toInt ≤ (σ_3 h0 8).toInt from (by omega))⟩, (show TP D cA L T r σ_3 ρ_10 t.heap from by rw [ht]; exact hB.1)⟩, hS.F ht⟩) hS.2.2 dX12_passWord_24
  · skip
    have uc_12 := i_ne (n := 0) (by decide) c_12
    refine lv_aload_n hx hb dX12_passWord_11 rfl (lv_at hl 0 rfl) ?_
    refine lv_dup hx hb dX12_passWord_12 rfl ?_
    refine t_gv hx hb hts hown hK hB mh0 th0 fi_12_8 rfl mw_5_224 dX12_passWord_13 ?_
    refine lv_iconst (v := 1) hx hb dX12_passWord_16 (by decide) ?_
    refine lv_iadd hx hb dX12_passWord_17 ?_
    refine lv_topi (fun x_13 ex_13 => ?_)
    have vx_13 := b_add (rfl : (σ_3 h0 8).toInt = _) (by decide : (1 : Int32).toInt = 1) ex_13 (by omega) (by omega)
    refine t_pi hx hb hts hown hK hLA hB hS mh0 th0 fi_12_8 rfl rfl rfl (by first | omega | (subst_vars; omega)) (by first | omega | (subst_vars; omega)) (Or.inl (by decide)) mw_5_224 dX12_passWord_18 (fun H locs σ_14 eσ_14 hB hS => ?_)
    have k_15 : σ_14 h0 8 = x_13 := by rw [eσ_14]; exact up2_same _ _ _ _
    refine lv_goto (tgt := 0) hx hb dX12_passWord_21 (by decide) ?_
    have k_16 : σ_14 h0 1 = (σ h0 1) := by rw [eσ_14, up2_nej _ _ (by decide)]; exact k_6
    exact ih_5 ⟨σ_14, ρ_10⟩ _ _ _ ⟨k_16, (by rw [k_15]; omega), hB, hS, lv_sub hl [0] rfl⟩ (by show (400 - (σ_14 h0 8).toInt).toNat < (400 - (σ_3 h0 8).toInt).toNat; rw [k_15]; omega)
theorem mw_6_136 : (.instanceMethod yX12_see : Cond) ∈ wsA := wsA_t (List.mem_append_right _ (List.mem_append_right _ (List.mem_append_right _ (List.mem_append_right _ (List.mem_append_right _ (List.mem_append_left _ (List.mem_of_getElem? (l := tables_1_6) (i := 136) rfl))))))) rfl
theorem mp_3_13 : (.selects RX12 yX12_see yX12_see : Cond) ∈ wsA := wsA_p (q := (yX12_see, 44)) (List.mem_append_right _ (List.mem_append_right _ (List.mem_append_left _ (List.mem_of_getElem? (l := lw_privs_3) (i := 13) rfl))))
theorem mw_6_137 : (.code yX12_see cX12_see 1 (some .int) : Cond) ∈ wsA := wsA_t (List.mem_append_right _ (List.mem_append_right _ (List.mem_append_right _ (List.mem_append_right _ (List.mem_append_right _ (List.mem_append_left _ (List.mem_of_getElem? (l := tables_1_6) (i := 137) rfl))))))) rfl
theorem mw_6_134 : (.methodLink RX12 105 yX12_see : Cond) ∈ wsA := wsA_t (List.mem_append_right _ (List.mem_append_right _ (List.mem_append_right _ (List.mem_append_right _ (List.mem_append_right _ (List.mem_append_left _ (List.mem_of_getElem? (l := tables_1_6) (i := 134) rfl))))))) rfl
theorem dX12_isWord_0 : decode cX12_isWord 0 = .ok (.aload_n 0, 1) := by decide +kernel
theorem dX12_isWord_1 : decode cX12_isWord 1 = .ok (.invokevirtual 105, 3) := by decide +kernel
theorem dX12_isWord_4 : decode cX12_isWord 4 = .ok (.pop, 1) := by decide +kernel
theorem dX12_isWord_5 : decode cX12_isWord 5 = .ok (.lconst 0, 1) := by decide +kernel
theorem dX12_isWord_6 : decode cX12_isWord 6 = .ok (.lstore_n 3, 1) := by decide +kernel
theorem dX12_isWord_7 : decode cX12_isWord 7 = .ok (.iconst 0, 1) := by decide +kernel
theorem dX12_isWord_8 : decode cX12_isWord 8 = .ok (.istore 5, 2) := by decide +kernel
theorem dX12_isWord_10 : decode cX12_isWord 10 = .ok (.aload_n 0, 1) := by decide +kernel
theorem dX12_isWord_11 : decode cX12_isWord 11 = .ok (.aload_n 0, 1) := by decide +kernel
theorem dX12_isWord_12 : decode cX12_isWord 12 = .ok (.getfield 102, 3) := by decide +kernel
theorem dX12_isWord_15 : decode cX12_isWord 15 = .ok (.iload 5, 2) := by decide +kernel
theorem dX12_isWord_17 : decode cX12_isWord 17 = .ok (.iadd, 1) := by decide +kernel
theorem dX12_isWord_18 : decode cX12_isWord 18 = .ok (.invokevirtual 109, 3) := by decide +kernel
theorem dX12_isWord_21 : decode cX12_isWord 21 = .ok (.ifCond .eq 35, 3) := by decide +kernel
theorem dX12_isWord_24 : decode cX12_isWord 24 = .ok (.iload 5, 2) := by decide +kernel
theorem dX12_isWord_26 : decode cX12_isWord 26 = .ok (.bipush 8, 2) := by decide +kernel
theorem dX12_isWord_28 : decode cX12_isWord 28 = .ok (.if_icmp .ge 22, 3) := by decide +kernel
theorem dX12_isWord_50 : decode cX12_isWord 50 = .ok (.iinc 5 1, 3) := by decide +kernel
theorem dX12_isWord_53 : decode cX12_isWord 53 = .ok (.goto (-43), 3) := by decide +kernel
theorem dX12_isWord_31 : decode cX12_isWord 31 = .ok (.lload_n 3, 1) := by decide +kernel
theorem dX12_isWord_32 : decode cX12_isWord 32 = .ok (.bipush 8, 2) := by decide +kernel
theorem dX12_isWord_34 : decode cX12_isWord 34 = .ok (.lshl, 1) := by decide +kernel
theorem dX12_isWord_35 : decode cX12_isWord 35 = .ok (.aload_n 0, 1) := by decide +kernel
theorem dX12_isWord_36 : decode cX12_isWord 36 = .ok (.getfield 7, 3) := by decide +kernel
theorem dX12_isWord_39 : decode cX12_isWord 39 = .ok (.aload_n 0, 1) := by decide +kernel
theorem dX12_isWord_40 : decode cX12_isWord 40 = .ok (.getfield 102, 3) := by decide +kernel
theorem dX12_isWord_43 : decode cX12_isWord 43 = .ok (.iload 5, 2) := by decide +kernel
theorem dX12_isWord_45 : decode cX12_isWord 45 = .ok (.iadd, 1) := by decide +kernel
theorem dX12_isWord_46 : decode cX12_isWord 46 = .ok (.baload, 1) := by decide +kernel
theorem dX12_isWord_47 : decode cX12_isWord 47 = .ok (.i2l, 1) := by decide +kernel
theorem dX12_isWord_48 : decode cX12_isWord 48 = .ok (.lor, 1) := by decide +kernel
theorem dX12_isWord_49 : decode cX12_isWord 49 = .ok (.lstore_n 3, 1) := by decide +kernel
theorem dX12_isWord_56 : decode cX12_isWord 56 = .ok (.iload 5, 2) := by decide +kernel
theorem dX12_isWord_58 : decode cX12_isWord 58 = .ok (.ifCond .le 20, 3) := by decide +kernel
theorem dX12_isWord_78 : decode cX12_isWord 78 = .ok (.iconst 0, 1) := by decide +kernel
theorem dX12_isWord_79 : decode cX12_isWord 79 = .ok (.ireturn, 1) := by decide +kernel
theorem dX12_isWord_61 : decode cX12_isWord 61 = .ok (.iload 5, 2) := by decide +kernel
theorem dX12_isWord_63 : decode cX12_isWord 63 = .ok (.bipush 8, 2) := by decide +kernel
theorem dX12_isWord_65 : decode cX12_isWord 65 = .ok (.if_icmp .ge 13, 3) := by decide +kernel
theorem dX12_isWord_68 : decode cX12_isWord 68 = .ok (.lload_n 3, 1) := by decide +kernel
theorem dX12_isWord_69 : decode cX12_isWord 69 = .ok (.lload_n 1, 1) := by decide +kernel
theorem dX12_isWord_70 : decode cX12_isWord 70 = .ok (.lcmp, 1) := by decide +kernel
theorem dX12_isWord_71 : decode cX12_isWord 71 = .ok (.ifCond .ne 7, 3) := by decide +kernel
theorem dX12_isWord_74 : decode cX12_isWord 74 = .ok (.iconst 1, 1) := by decide +kernel
theorem dX12_isWord_75 : decode cX12_isWord 75 = .ok (.goto 4, 3) := by decide +kernel
theorem mv_X12_see : MV RX12 yX12_see cX12_see 1 (some .int) 0 := ⟨mw_6_136, mp_3_13, mw_1_13, mw_6_137, ⟨rfl, by decide, by decide, by decide +kernel⟩⟩
set_option maxHeartbeats 4000000 in
set_option maxRecDepth 100000 in
theorem cy_X12_isWord (l : Launch) (D : va_G) (cA : Nat → ClassId) (L : List Nat) (T : Nat → Nat) (r : Rg) (hG : GR L T r) (hL : L.Nodup) (σ : Sg) (ρ : Lg) (hW : WT L ry T σ) (sz : Nat) (h0 : Nat) (mh0 : h0 ∈ L) (th0 : T h0 = 12) (p1 : Int64) : Met l yX12_isWord (.code yX12_isWord cX12_isWord 6 (some .boolean) :: wsA) ({ frames := 1, cells := 0, slots := 0, locals := 21 }) (PR D cA L T r σ ρ sz [.ref h0, .long p1]) (QI D cA L T r ry [(12, 8)] σ sz (fun x σ1 => (0 ≤ x.toInt ∧ x.toInt ≤ 1) ∧ ((σ h0 8).toInt ≤ (σ1 h0 8).toInt) ∧ (x.toInt = 1 → (σ1 h0 8).toInt < (σ1 h0 1).toInt))) 0 0 (dm L sz) := by
  refine Met.ofW (cc := cX12_isWord) (maxL := 6) (ret := (some .boolean)) (by decide) rfl ?_
  intro p e s m args below meth c s₁ B hml hv
  obtain ⟨rfl, hsz, hP, hK, hN⟩ := hv
  have hx := B.exec
  have hb := B.bytes
  have hr := B.returns
  have hts : ∀ w ∈ wsA, w.before _ s = true := fun w h => atoms_spec (ws := .code yX12_isWord cX12_isWord 6 (some .boolean) :: wsA) B.pre w (List.mem_cons_of_mem _ h)
  have hown : s.vm.findClass RX12 = some m.cls := findClass_of_methodNamed B.named
  subst hsz
  have hLA : LA (dm L s.heap.size) L := ⟨hL, fun a h => Or.inl h⟩
  have hA : ∀ q : Nat, s.heap.size ≤ q → dm L s.heap.size q := fun q h => Or.inr h
  have hS : va_S (dm L s.heap.size) s.heap s.heap [] := va_S.rf
  have hB : TS D cA L T r ry [(12, 8)] σ σ ρ s.heap := ⟨hP, hW, FR.rf⟩
  have hl := lv_entry ([.ref h0, .long p1]) (n := 6) (Nat.le_of_ble_eq_true rfl)
  rw [lg_entry_eq]
  generalize (lg_sl ([.ref h0, .long p1]) ++ List.replicate (6 - (lg_sl ([.ref h0, .long p1])).length) Slot.unset).toArray = ls at hl ⊢
  have hl : lv_has ls 6 [(0, .ref h0), (1, .long p1)] := hl
  have w_1 : 0 ≤ (σ h0 8).toInt ∧ (σ h0 8).toInt ≤ 400 := by have z := hB.2.1 h0 mh0 8; rw [th0] at z; exact z
  have w_2 : 0 ≤ (σ h0 1).toInt ∧ (σ h0 1).toInt ≤ 400 := by have z := hB.2.1 h0 mh0 1; rw [th0] at z; exact z
  refine lv_aload_n hx hb dX12_isWord_0 rfl (lv_at hl 0 rfl) ?_
  refine t_ci (va_runV (As := []) (rest := []) ⟨hx, hb, hml, hown, hts⟩ (cy_X12_see l D cA L T r hG hLA.1 σ ρ hB.2.1 _ h0 mh0 th0) (cV hts mv_X12_see mw_6_134 rfl rfl ⟨Nat.le_of_ble_eq_true rfl, Nat.le_of_ble_eq_true rfl⟩) (pV hB.1 hK hN mh0 th0 (show shp cA 12 _ _ _ = .inr (12, Fs12 _ _ _) from rfl) rfl) rfl rfl hl.1 rfl (lv_room (Nat.le_of_ble_eq_true rfl)) dX12_isWord_1 ⟨Nat.le_of_ble_eq_true rfl, Nat.le_of_ble_eq_true rfl⟩) hLA hA hB hS (by decide) (fun x_5 σ_3 ρ_4 H locs hB fσ_3 pσ_3 hS => ?_)
  obtain ⟨g_6, g_7, g_8⟩ := pσ_3
  have w_9 : 0 ≤ (σ_3 h0 8).toInt ∧ (σ_3 h0 8).toInt ≤ 400 := by have z := hB.2.1 h0 mh0 8; rw [th0] at z; exact z
  obtain ⟨lx_5, ux_5⟩ := g_6
  refine lv_pop hx hb dX12_isWord_4 rfl ?_
  refine lv_lconst (v := 0) hx hb dX12_isWord_5 (by decide) ?_
  refine lv_lstore_n (lv' := [(3, .long 0), (0, .ref h0), (1, .long p1)]) hx hb dX12_isWord_6 rfl hl (by decide) rfl (fun ls hl => ?_)
  refine lv_iconst (v := 0) hx hb dX12_isWord_7 (by decide) ?_
  refine lv_istore (lv' := [(5, .int 0), (3, .long 0), (0, .ref h0), (1, .long p1)]) hx hb dX12_isWord_8 hl (by decide) rfl (fun ls hl => ?_)
  have k_10 : σ_3 h0 1 = (σ h0 1) := (FR.at fσ_3 th0 (by decide)).trans rfl
  refine w_loop (α := Int64 × Int32 × Sg × Lg) (fun (i_11, i_12, σ_13, ρ_14) H locs ls => 0 ≤ i_12.toInt ∧ i_12.toInt ≤ 400 ∧ σ_13 h0 1 = (σ h0 1) ∧ σ_13 h0 8 = (σ_3 h0 8) ∧ (1 ≤ i_12.toInt → (σ_13 h0 8).toInt < (σ_13 h0 1).toInt) ∧ TS D cA L T r ry [(12, 8)] σ σ_13 ρ_14 H ∧ va_S (dm L s.heap.size) s.heap H locs ∧ lv_has ls 6 [(5, .int i_12), (3, .long i_11), (0, .ref h0), (1, .long p1)]) (fun (i_11, i_12, σ_13, ρ_14) => (400 - i_12.toInt).toNat) ?_ ⟨0, 0, σ_3, ρ_4⟩ ⟨(by decide), (by decide), k_10, rfl, (fun h => by first | (exact absurd h (by decide)) | omega | (rw [k_10]; omega)), hB, hS, lv_sub hl [0, 1, 2, 3] rfl⟩
  rintro ⟨i_11, i_12, σ_13, ρ_14⟩ H locs ls ⟨li_12, ui_12, k_16, k_17, g_18, hB, hS, hl⟩ ih_15
  have cq8 := congrArg Int32.toInt k_17
  have cq1 := congrArg Int32.toInt k_16
  refine lv_aload_n hx hb dX12_isWord_10 rfl (lv_at hl 2 rfl) ?_
  refine lv_aload_n hx hb dX12_isWord_11 rfl (lv_at hl 2 rfl) ?_
  refine t_gv hx hb hts hown hK hB mh0 th0 fi_12_8 k_17 mw_5_224 dX12_isWord_12 ?_
  refine lv_iload hx hb dX12_isWord_15 (lv_at hl 0 rfl) ?_
  refine lv_iadd hx hb dX12_isWord_17 ?_
  refine lv_topi (fun x_19 ex_19 => ?_)
  have vx_19 := b_add (rfl : (σ_3 h0 8).toInt = _) (rfl : i_12.toInt = _) ex_19 (by omega) (by omega)
  refine t_ci (va_runV (As := [.int x_19]) (rest := []) ⟨hx, hb, hml, hown, hts⟩ (cy_X12_isLetter l D cA L T r hG hLA.1 σ_13 ρ_14 hB.2.1 _ h0 mh0 th0 x_19 (by first | omega | decide)) (cV hts mv_X12_isLetter mw_6_147 rfl rfl ⟨Nat.le_of_ble_eq_true rfl, Nat.le_of_ble_eq_true rfl⟩) (pV hB.1 hK hN mh0 th0 (show shp cA 12 _ _ _ = .inr (12, Fs12 _ _ _) from rfl) rfl) rfl rfl hl.1 rfl (lv_room (Nat.le_of_ble_eq_true rfl)) dX12_isWord_18 ⟨Nat.le_of_ble_eq_true rfl, Nat.le_of_ble_eq_true rfl⟩) hLA hA hB hS (by decide) (fun x_22 σ_20 ρ_21 H locs hB fσ_20 pσ_20 hS => ?_)
  have qσ_20 := FR.nil fσ_20
  subst qσ_20
  obtain ⟨ox_22, ix_22⟩ := pσ_20
  refine lv_if_eq (tgt := 56) hx hb dX12_isWord_21 (by decide) (fun c_23 => ?_) (fun c_23 => ?_)
  · skip
    have uc_23 := i_eq (n := 0) (by decide) c_23
    refine lv_iload hx hb dX12_isWord_56 (lv_at hl 0 rfl) ?_
    refine lv_if_le (tgt := 78) hx hb dX12_isWord_58 (by decide) (fun c_24 => ?_) (fun c_24 => ?_)
    · skip
      have uc_24 := i_le (n := 0) (by decide) c_24
      refine lv_iconst (v := 0) hx hb dX12_isWord_78 (by decide) ?_
      exact W.zret (v := 0) hx hb hr rfl (fun t ht hW => ⟨⟨0, (σ_13, ρ_21), rfl, ⟨hB.2.1, hB.2.2, ⟨(show 0 ≤ (0 : Int32).toInt ∧ (0 : Int32).toInt ≤ 1 from ⟨by decide, by decide⟩), (show (σ h0 8).toInt ≤ (σ_13 h0 8).toInt from (by rw [k_17]; omega)), (show (0 : Int32).toInt = 1 → (σ_13 h0 8).toInt < (σ_13 h0 1).toInt from (fun h => absurd h (by decide)))⟩⟩, (show TP D cA L T r σ_13 ρ_21 t.heap from by rw [ht]; exact hB.1)⟩, hS.F ht⟩) hS.2.2 dX12_isWord_79
    · skip
      have uc_24 := i_nle (n := 0) (by decide) c_24
      refine lv_iload hx hb dX12_isWord_61 (lv_at hl 0 rfl) ?_
      refine lv_bipush (v := 8) hx hb dX12_isWord_63 (by decide) ?_
      refine lv_icmp_ge (tgt := 78) hx hb dX12_isWord_65 (by decide) (fun c_25 => ?_) (fun c_25 => ?_)
      · skip
        have uc_25 := i_ge (n := 8) (by decide) c_25
        refine lv_iconst (v := 0) hx hb dX12_isWord_78 (by decide) ?_
        exact W.zret (v := 0) hx hb hr rfl (fun t ht hW => ⟨⟨0, (σ_13, ρ_21), rfl, ⟨hB.2.1, hB.2.2, ⟨(show 0 ≤ (0 : Int32).toInt ∧ (0 : Int32).toInt ≤ 1 from ⟨by decide, by decide⟩), (show (σ h0 8).toInt ≤ (σ_13 h0 8).toInt from (by rw [k_17]; omega)), (show (0 : Int32).toInt = 1 → (σ_13 h0 8).toInt < (σ_13 h0 1).toInt from (fun h => absurd h (by decide)))⟩⟩, (show TP D cA L T r σ_13 ρ_21 t.heap from by rw [ht]; exact hB.1)⟩, hS.F ht⟩) hS.2.2 dX12_isWord_79
      · skip
        have uc_25 := i_nge (n := 8) (by decide) c_25
        refine lv_lload_n hx hb dX12_isWord_68 rfl (lv_at hl 1 rfl) ?_
        refine lv_lload_n hx hb dX12_isWord_69 rfl (lv_at hl 3 rfl) ?_
        refine W.lcmp hx hb dX12_isWord_70 ?_
        refine lv_if_ne (tgt := 78) hx hb dX12_isWord_71 (by decide) (fun c_26 => ?_) (fun c_26 => ?_)
        · skip
          have uc_26 := mt (lg_cmp_eq _ _).mpr c_26
          refine lv_iconst (v := 0) hx hb dX12_isWord_78 (by decide) ?_
          exact W.zret (v := 0) hx hb hr rfl (fun t ht hW => ⟨⟨0, (σ_13, ρ_21), rfl, ⟨hB.2.1, hB.2.2, ⟨(show 0 ≤ (0 : Int32).toInt ∧ (0 : Int32).toInt ≤ 1 from ⟨by decide, by decide⟩), (show (σ h0 8).toInt ≤ (σ_13 h0 8).toInt from (by rw [k_17]; omega)), (show (0 : Int32).toInt = 1 → (σ_13 h0 8).toInt < (σ_13 h0 1).toInt from (fun h => absurd h (by decide)))⟩⟩, (show TP D cA L T r σ_13 ρ_21 t.heap from by rw [ht]; exact hB.1)⟩, hS.F ht⟩) hS.2.2 dX12_isWord_79
        · skip
          have uc_26 := (lg_cmp_eq _ _).mp c_26
          refine lv_iconst (v := 1) hx hb dX12_isWord_74 (by decide) ?_
          refine lv_goto (tgt := 79) hx hb dX12_isWord_75 (by decide) ?_
          exact W.zret (v := 1) hx hb hr rfl (fun t ht hW => ⟨⟨1, (σ_13, ρ_21), rfl, ⟨hB.2.1, hB.2.2, ⟨(show 0 ≤ (1 : Int32).toInt ∧ (1 : Int32).toInt ≤ 1 from ⟨by decide, by decide⟩), (show (σ h0 8).toInt ≤ (σ_13 h0 8).toInt from (by rw [k_17]; omega)), (show (1 : Int32).toInt = 1 → (σ_13 h0 8).toInt < (σ_13 h0 1).toInt from (fun h => by first | omega | (rw [k_17, k_16]; omega)))⟩⟩, (show TP D cA L T r σ_13 ρ_21 t.heap from by rw [ht]; exact hB.1)⟩, hS.F ht⟩) hS.2.2 dX12_isWord_79
  · skip
    have uc_23 := i_ne (n := 0) (by decide) c_23
    refine lv_iload hx hb dX12_isWord_24 (lv_at hl 0 rfl) ?_
    refine lv_bipush (v := 8) hx hb dX12_isWord_26 (by decide) ?_
    refine lv_icmp_ge (tgt := 50) hx hb dX12_isWord_28 (by decide) (fun c_27 => ?_) (fun c_27 => ?_)
    · skip
      have uc_27 := i_ge (n := 8) (by decide) c_27
      obtain ⟨x_28, ex_28⟩ : ∃ y : Int32, y = i_12 + 1 := ⟨_, rfl⟩
      have vx_28 := b_add (rfl : i_12.toInt = _) (by decide : (1 : Int32).toInt = 1) ex_28 (by omega) (by omega)
      refine lv_iinc (v := x_28) (lv' := [(5, .int x_28), (3, .long i_11), (0, .ref h0), (1, .long p1)]) hx hb dX12_isWord_50 hl (k := 0) rfl (by rw [ex_28]; rfl) (by decide) rfl (fun ls hl => ?_)
      refine lv_goto (tgt := 10) hx hb dX12_isWord_53 (by decide) ?_
      exact ih_15 ⟨i_11, x_28, σ_13, ρ_21⟩ _ _ _ ⟨(by omega), (by omega), k_16, k_17, (fun h => by first | (exact absurd h (by decide)) | omega | (rw [k_17, k_16]; omega)), hB, hS, lv_sub hl [0, 1, 2, 3] rfl⟩ (by show (400 - x_28.toInt).toNat < (400 - i_12.toInt).toNat; omega)
    · skip
      have uc_27 := i_nge (n := 8) (by decide) c_27
      refine lv_lload_n hx hb dX12_isWord_31 rfl (lv_at hl 1 rfl) ?_
      refine lv_bipush (v := 8) hx hb dX12_isWord_32 (by decide) ?_
      refine lv_lshl hx hb dX12_isWord_34 rfl ?_
      refine lv_topl (fun y_29 ey_29 => ?_)
      refine lv_aload_n hx hb dX12_isWord_35 rfl (lv_at hl 2 rfl) ?_
      refine t_gr hx hb hts hown hK hG hB mh0 th0 fq_12_0 rfl mw_5_216 dX12_isWord_36 (fun b_30 hb_30 mb_30 tb_30 => ?_)
      refine lv_aload_n hx hb dX12_isWord_39 rfl (lv_at hl 2 rfl) ?_
      refine t_gv hx hb hts hown hK hB mh0 th0 fi_12_8 k_17 mw_5_224 dX12_isWord_40 ?_
      refine lv_iload hx hb dX12_isWord_43 (lv_at hl 0 rfl) ?_
      refine lv_iadd hx hb dX12_isWord_45 ?_
      refine lv_topi (fun x_31 ex_31 => ?_)
      have vx_31 := b_add (rfl : (σ_3 h0 8).toInt = _) (rfl : i_12.toInt = _) ex_31 (by omega) (by omega)
      refine t_ab hx hb hK hB mb_30 tb_30 ai_61 (fun _ => rfl) (i_in (by omega) (by omega)) dX12_isWord_46 (fun x_32 ex_32 lx_32 ux_32 => ?_)
      have cx_32 := congrArg Int32.toInt ex_32
      refine lv_i2l (v := x_32.toInt64) hx hb dX12_isWord_47 rfl ?_
      refine lv_lor hx hb dX12_isWord_48 ?_
      refine lv_topl (fun y_33 ey_33 => ?_)
      refine lv_lstore_n (lv' := [(3, .long y_33), (5, .int i_12), (0, .ref h0), (1, .long p1)]) hx hb dX12_isWord_49 rfl hl (by decide) rfl (fun ls hl => ?_)
      obtain ⟨x_34, ex_34⟩ : ∃ y : Int32, y = i_12 + 1 := ⟨_, rfl⟩
      have vx_34 := b_add (rfl : i_12.toInt = _) (by decide : (1 : Int32).toInt = 1) ex_34 (by omega) (by omega)
      refine lv_iinc (v := x_34) (lv' := [(5, .int x_34), (3, .long y_33), (0, .ref h0), (1, .long p1)]) hx hb dX12_isWord_50 hl (k := 1) rfl (by rw [ex_34]; rfl) (by decide) rfl (fun ls hl => ?_)
      refine lv_goto (tgt := 10) hx hb dX12_isWord_53 (by decide) ?_
      exact ih_15 ⟨y_33, x_34, σ_13, ρ_21⟩ _ _ _ ⟨(by omega), (by omega), k_16, k_17, (fun h => by first | (exact absurd h (by decide)) | omega | (rw [k_17, k_16]; omega)), hB, hS, lv_sub hl [0, 1, 2, 3] rfl⟩ (by show (400 - x_34.toInt).toNat < (400 - i_12.toInt).toNat; omega)
