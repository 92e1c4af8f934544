theorem mw_6_9 : (.fieldLink RX12 422 "HillBendsModel" "giftMany" "I" : Cond) ∈ wsA := wsA_t (List.mem_append_right _ (List.mem_append_right _ (List.mem_append_right _ (List.mem_append_right _ (List.mem_append_right _ (List.mem_append_left _ (List.mem_of_getElem? (l := tables_1_6) (i := 9) rfl))))))) rfl
theorem mw_6_10 : (.fieldLink RX12 425 "HillBendsModel" "giftFirst" "I" : Cond) ∈ wsA := wsA_t (List.mem_append_right _ (List.mem_append_right _ (List.mem_append_right _ (List.mem_append_right _ (List.mem_append_right _ (List.mem_append_left _ (List.mem_of_getElem? (l := tables_1_6) (i := 10) rfl))))))) rfl
theorem mw_6_11 : (.fieldLink RX12 67 "HillBendsModel" "giftBits" "[I" : Cond) ∈ wsA := wsA_t (List.mem_append_right _ (List.mem_append_right _ (List.mem_append_right _ (List.mem_append_right _ (List.mem_append_right _ (List.mem_append_left _ (List.mem_of_getElem? (l := tables_1_6) (i := 11) rfl))))))) rfl
theorem mw_8_71 : (.instanceMethod yX12_isGift : Cond) ∈ wsA := wsA_t (List.mem_append_right _ (List.mem_append_right _ (List.mem_append_right _ (List.mem_append_right _ (List.mem_append_right _ (List.mem_append_right _ (List.mem_append_right _ (List.mem_of_getElem? (l := tables_1_8) (i := 71) rfl)))))))) rfl
theorem mp_8_3 : (.selects RX12 yX12_isGift yX12_isGift : Cond) ∈ wsA := wsA_p (q := (yX12_isGift, 44)) (List.mem_append_right _ (List.mem_append_right _ (List.mem_append_right _ (List.mem_append_right _ (List.mem_append_right _ (List.mem_append_right _ (List.mem_append_right _ (List.mem_of_getElem? (l := lw_privs_8) (i := 3) rfl))))))))
theorem mw_8_72 : (.code yX12_isGift cX12_isGift 6 (some .boolean) : Cond) ∈ wsA := wsA_t (List.mem_append_right _ (List.mem_append_right _ (List.mem_append_right _ (List.mem_append_right _ (List.mem_append_right _ (List.mem_append_right _ (List.mem_append_right _ (List.mem_of_getElem? (l := tables_1_8) (i := 72) rfl)))))))) rfl
theorem mw_8_69 : (.methodLink RX12 428 yX12_isGift : Cond) ∈ wsA := wsA_t (List.mem_append_right _ (List.mem_append_right _ (List.mem_append_right _ (List.mem_append_right _ (List.mem_append_right _ (List.mem_append_right _ (List.mem_append_right _ (List.mem_of_getElem? (l := tables_1_8) (i := 69) rfl)))))))) rfl
theorem dX12_findsGifts_0 : decode cX12_findsGifts 0 = .ok (.aload_n 0, 1) := by decide +kernel
theorem dX12_findsGifts_1 : decode cX12_findsGifts 1 = .ok (.iconst 0, 1) := by decide +kernel
theorem dX12_findsGifts_2 : decode cX12_findsGifts 2 = .ok (.putfield 422, 3) := by decide +kernel
theorem dX12_findsGifts_5 : decode cX12_findsGifts 5 = .ok (.aload_n 0, 1) := by decide +kernel
theorem dX12_findsGifts_6 : decode cX12_findsGifts 6 = .ok (.iconst 0, 1) := by decide +kernel
theorem dX12_findsGifts_7 : decode cX12_findsGifts 7 = .ok (.putfield 425, 3) := by decide +kernel
theorem dX12_findsGifts_10 : decode cX12_findsGifts 10 = .ok (.iconst 0, 1) := by decide +kernel
theorem dX12_findsGifts_11 : decode cX12_findsGifts 11 = .ok (.istore_n 2, 1) := by decide +kernel
theorem dX12_findsGifts_12 : decode cX12_findsGifts 12 = .ok (.iload_n 2, 1) := by decide +kernel
theorem dX12_findsGifts_13 : decode cX12_findsGifts 13 = .ok (.bipush 8, 2) := by decide +kernel
theorem dX12_findsGifts_15 : decode cX12_findsGifts 15 = .ok (.if_icmp .ge 16, 3) := by decide +kernel
theorem dX12_findsGifts_18 : decode cX12_findsGifts 18 = .ok (.aload_n 0, 1) := by decide +kernel
theorem dX12_findsGifts_19 : decode cX12_findsGifts 19 = .ok (.getfield 67, 3) := by decide +kernel
theorem dX12_findsGifts_22 : decode cX12_findsGifts 22 = .ok (.iload_n 2, 1) := by decide +kernel
theorem dX12_findsGifts_23 : decode cX12_findsGifts 23 = .ok (.iconst 0, 1) := by decide +kernel
theorem dX12_findsGifts_24 : decode cX12_findsGifts 24 = .ok (.iastore, 1) := by decide +kernel
theorem dX12_findsGifts_25 : decode cX12_findsGifts 25 = .ok (.iinc 2 1, 3) := by decide +kernel
theorem dX12_findsGifts_28 : decode cX12_findsGifts 28 = .ok (.goto (-16), 3) := by decide +kernel
theorem dX12_findsGifts_31 : decode cX12_findsGifts 31 = .ok (.iconst 0, 1) := by decide +kernel
theorem dX12_findsGifts_32 : decode cX12_findsGifts 32 = .ok (.istore_n 2, 1) := by decide +kernel
theorem dX12_findsGifts_33 : decode cX12_findsGifts 33 = .ok (.iload_n 2, 1) := by decide +kernel
theorem dX12_findsGifts_34 : decode cX12_findsGifts 34 = .ok (.iconst 1, 1) := by decide +kernel
theorem dX12_findsGifts_35 : decode cX12_findsGifts 35 = .ok (.iload_n 1, 1) := by decide +kernel
theorem dX12_findsGifts_36 : decode cX12_findsGifts 36 = .ok (.ishl, 1) := by decide +kernel
theorem dX12_findsGifts_37 : decode cX12_findsGifts 37 = .ok (.if_icmp .ge 91, 3) := by decide +kernel
theorem dX12_findsGifts_40 : decode cX12_findsGifts 40 = .ok (.iload_n 1, 1) := by decide +kernel
theorem dX12_findsGifts_41 : decode cX12_findsGifts 41 = .ok (.aload_n 0, 1) := by decide +kernel
theorem dX12_findsGifts_42 : decode cX12_findsGifts 42 = .ok (.getfield 39, 3) := by decide +kernel
theorem dX12_findsGifts_45 : decode cX12_findsGifts 45 = .ok (.iconst 2, 1) := by decide +kernel
theorem dX12_findsGifts_46 : decode cX12_findsGifts 46 = .ok (.iaload, 1) := by decide +kernel
theorem dX12_findsGifts_47 : decode cX12_findsGifts 47 = .ok (.if_icmp .gt 81, 3) := by decide +kernel
theorem dX12_findsGifts_50 : decode cX12_findsGifts 50 = .ok (.aload_n 0, 1) := by decide +kernel
theorem dX12_findsGifts_51 : decode cX12_findsGifts 51 = .ok (.iload_n 2, 1) := by decide +kernel
theorem dX12_findsGifts_52 : decode cX12_findsGifts 52 = .ok (.iload_n 1, 1) := by decide +kernel
theorem dX12_findsGifts_53 : decode cX12_findsGifts 53 = .ok (.invokevirtual 428, 3) := by decide +kernel
theorem dX12_findsGifts_56 : decode cX12_findsGifts 56 = .ok (.ifCond .ne 6, 3) := by decide +kernel
theorem dX12_findsGifts_62 : decode cX12_findsGifts 62 = .ok (.aload_n 0, 1) := by decide +kernel
theorem dX12_findsGifts_63 : decode cX12_findsGifts 63 = .ok (.getfield 422, 3) := by decide +kernel
theorem dX12_findsGifts_66 : decode cX12_findsGifts 66 = .ok (.ifCond .ne 8, 3) := by decide +kernel
theorem dX12_findsGifts_74 : decode cX12_findsGifts 74 = .ok (.aload_n 0, 1) := by decide +kernel
theorem dX12_findsGifts_75 : decode cX12_findsGifts 75 = .ok (.dup, 1) := by decide +kernel
theorem dX12_findsGifts_76 : decode cX12_findsGifts 76 = .ok (.getfield 422, 3) := by decide +kernel
theorem dX12_findsGifts_79 : decode cX12_findsGifts 79 = .ok (.iconst 1, 1) := by decide +kernel
theorem dX12_findsGifts_80 : decode cX12_findsGifts 80 = .ok (.iadd, 1) := by decide +kernel
theorem dX12_findsGifts_81 : decode cX12_findsGifts 81 = .ok (.putfield 422, 3) := by decide +kernel
theorem dX12_findsGifts_84 : decode cX12_findsGifts 84 = .ok (.iconst 0, 1) := by decide +kernel
theorem dX12_findsGifts_85 : decode cX12_findsGifts 85 = .ok (.istore_n 3, 1) := by decide +kernel
theorem dX12_findsGifts_86 : decode cX12_findsGifts 86 = .ok (.iload_n 3, 1) := by decide +kernel
theorem dX12_findsGifts_87 : decode cX12_findsGifts 87 = .ok (.iload_n 1, 1) := by decide +kernel
theorem dX12_findsGifts_88 : decode cX12_findsGifts 88 = .ok (.if_icmp .ge 34, 3) := by decide +kernel
theorem dX12_findsGifts_91 : decode cX12_findsGifts 91 = .ok (.aload_n 0, 1) := by decide +kernel
theorem dX12_findsGifts_92 : decode cX12_findsGifts 92 = .ok (.getfield 67, 3) := by decide +kernel
theorem dX12_findsGifts_95 : decode cX12_findsGifts 95 = .ok (.iload_n 3, 1) := by decide +kernel
theorem dX12_findsGifts_96 : decode cX12_findsGifts 96 = .ok (.dup2, 1) := by decide +kernel
theorem dX12_findsGifts_97 : decode cX12_findsGifts 97 = .ok (.iaload, 1) := by decide +kernel
theorem dX12_findsGifts_98 : decode cX12_findsGifts 98 = .ok (.iconst 1, 1) := by decide +kernel
theorem dX12_findsGifts_99 : decode cX12_findsGifts 99 = .ok (.aload_n 0, 1) := by decide +kernel
theorem dX12_findsGifts_100 : decode cX12_findsGifts 100 = .ok (.iload_n 3, 1) := by decide +kernel
theorem dX12_findsGifts_101 : decode cX12_findsGifts 101 = .ok (.iload_n 2, 1) := by decide +kernel
theorem dX12_findsGifts_102 : decode cX12_findsGifts 102 = .ok (.iload_n 1, 1) := by decide +kernel
theorem dX12_findsGifts_103 : decode cX12_findsGifts 103 = .ok (.iconst 1, 1) := by decide +kernel
theorem dX12_findsGifts_104 : decode cX12_findsGifts 104 = .ok (.isub, 1) := by decide +kernel
theorem dX12_findsGifts_105 : decode cX12_findsGifts 105 = .ok (.iload_n 3, 1) := by decide +kernel
theorem dX12_findsGifts_106 : decode cX12_findsGifts 106 = .ok (.isub, 1) := by decide +kernel
theorem dX12_findsGifts_107 : decode cX12_findsGifts 107 = .ok (.ishr, 1) := by decide +kernel
theorem dX12_findsGifts_108 : decode cX12_findsGifts 108 = .ok (.iconst 1, 1) := by decide +kernel
theorem dX12_findsGifts_109 : decode cX12_findsGifts 109 = .ok (.iand, 1) := by decide +kernel
theorem dX12_findsGifts_110 : decode cX12_findsGifts 110 = .ok (.invokevirtual 300, 3) := by decide +kernel
theorem dX12_findsGifts_113 : decode cX12_findsGifts 113 = .ok (.ishl, 1) := by decide +kernel
theorem dX12_findsGifts_114 : decode cX12_findsGifts 114 = .ok (.ior, 1) := by decide +kernel
theorem dX12_findsGifts_115 : decode cX12_findsGifts 115 = .ok (.iastore, 1) := by decide +kernel
theorem dX12_findsGifts_116 : decode cX12_findsGifts 116 = .ok (.iinc 3 1, 3) := by decide +kernel
theorem dX12_findsGifts_119 : decode cX12_findsGifts 119 = .ok (.goto (-33), 3) := by decide +kernel
theorem dX12_findsGifts_122 : decode cX12_findsGifts 122 = .ok (.iinc 2 1, 3) := by decide +kernel
theorem dX12_findsGifts_125 : decode cX12_findsGifts 125 = .ok (.goto (-92), 3) := by decide +kernel
theorem dX12_findsGifts_69 : decode cX12_findsGifts 69 = .ok (.aload_n 0, 1) := by decide +kernel
theorem dX12_findsGifts_70 : decode cX12_findsGifts 70 = .ok (.iload_n 2, 1) := by decide +kernel
theorem dX12_findsGifts_71 : decode cX12_findsGifts 71 = .ok (.putfield 425, 3) := by decide +kernel
theorem dX12_findsGifts_59 : decode cX12_findsGifts 59 = .ok (.goto 63, 3) := by decide +kernel
theorem dX12_findsGifts_128 : decode cX12_findsGifts 128 = .ok (.return_, 1) := by decide +kernel
theorem mv_X12_isGift : MV RX12 yX12_isGift cX12_isGift 6 (some .boolean) 2 := ⟨mw_8_71, mp_8_3, mw_1_13, mw_8_72, ⟨rfl, by decide, by decide, by decide +kernel⟩⟩
set_option maxHeartbeats 4000000 in
set_option maxRecDepth 100000 in
theorem cy_X12_findsGifts (l : Launch) (D : va_G) (cA : Nat → ClassId) (L : List Nat) (T : Nat → Nat) (r : Rg) (hG : GR L T r) (hL : L.Nodup) (σ : Sg) (ρ : Lg) (hW : WT L ry T σ) (sz : Nat) (h0 : Nat) (mh0 : h0 ∈ L) (th0 : T h0 = 12) (p1 : Int32) (w0 : 0 ≤ p1.toInt) (w1 : p1.toInt ≤ 45) : Met l yX12_findsGifts (.code yX12_findsGifts cX12_findsGifts 4 none :: wsA) ({ frames := 2, cells := 0, slots := 0, locals := 47 }) (PR D cA L T r σ ρ sz [.ref h0, .int p1]) (QV D cA L T r ry [(12, 33), (12, 34), (73, 1000), (78, 1000)] σ sz (fun σ1 => True)) 0 0 (dm L sz) := by
  refine Met.ofW (cc := cX12_findsGifts) (maxL := 4) (ret := none) (by decide) rfl ?_
  intro p e s m args below meth c s₁ B hml hv
  obtain ⟨rfl, hsz, hP, hK, hN⟩ := hv
  have hx := B.exec
  have hb := B.bytes
  have hr := B.returns
  have hts : ∀ w ∈ wsA, w.before _ s = true := fun w h => atoms_spec (ws := .code yX12_findsGifts cX12_findsGifts 4 none :: wsA) B.pre w (List.mem_cons_of_mem _ h)
  have hown : s.vm.findClass RX12 = some m.cls := findClass_of_methodNamed B.named
  subst hsz
  have hLA : LA (dm L s.heap.size) L := ⟨hL, fun a h => Or.inl h⟩
  have hA : ∀ q : Nat, s.heap.size ≤ q → dm L s.heap.size q := fun q h => Or.inr h
  have hS : va_S (dm L s.heap.size) s.heap s.heap [] := va_S.rf
  have hB : TS D cA L T r ry [(12, 33), (12, 34), (73, 1000), (78, 1000)] σ σ ρ s.heap := ⟨hP, hW, FR.rf⟩
  have hl := lv_entry ([.ref h0, .int p1]) (n := 4) (Nat.le_of_ble_eq_true rfl)
  rw [lg_entry_eq]
  generalize (lg_sl ([.ref h0, .int p1]) ++ List.replicate (4 - (lg_sl ([.ref h0, .int p1])).length) Slot.unset).toArray = ls at hl ⊢
  have hl : lv_has ls 4 [(0, .ref h0), (1, .int p1)] := hl
  refine lv_aload_n hx hb dX12_findsGifts_0 rfl (lv_at hl 0 rfl) ?_
  refine lv_iconst (v := 0) hx hb dX12_findsGifts_1 (by decide) ?_
  refine t_pi hx hb hts hown hK hLA hB hS mh0 th0 fi_12_33 rfl rfl rfl (i_lo _) (i_hi _) (Or.inl (by decide)) mw_6_9 dX12_findsGifts_2 (fun H locs σ_1 eσ_1 hB hS => ?_)
  have k_2 : σ_1 h0 33 = 0 := by rw [eσ_1]; exact up2_same _ _ _ _
  refine lv_aload_n hx hb dX12_findsGifts_5 rfl (lv_at hl 0 rfl) ?_
  refine lv_iconst (v := 0) hx hb dX12_findsGifts_6 (by decide) ?_
  refine t_pi hx hb hts hown hK hLA hB hS mh0 th0 fi_12_34 rfl rfl rfl (i_lo _) (i_hi _) (Or.inl (by decide)) mw_6_10 dX12_findsGifts_7 (fun H locs σ_3 eσ_3 hB hS => ?_)
  have k_4 : σ_3 h0 34 = 0 := by rw [eσ_3]; exact up2_same _ _ _ _
  refine lv_iconst (v := 0) hx hb dX12_findsGifts_10 (by decide) ?_
  refine lv_istore_n (lv' := [(2, .int 0), (0, .ref h0), (1, .int p1)]) hx hb dX12_findsGifts_11 rfl hl (by decide) rfl (fun ls hl => ?_)
  have k_5 : σ_3 h0 33 = 0 := by rw [eσ_3, up2_nej _ _ (by decide)]; exact k_2
  refine w_loop (α := Int32 × Sg × Lg) (fun (i_6, σ_7, ρ_8) H locs ls => 0 ≤ i_6.toInt ∧ i_6.toInt ≤ 8 ∧ σ_7 h0 33 = 0 ∧ σ_7 h0 34 = 0 ∧ TS D cA L T r ry [(12, 33), (12, 34), (73, 1000), (78, 1000)] σ σ_7 ρ_8 H ∧ va_S (dm L s.heap.size) s.heap H locs ∧ lv_has ls 4 [(2, .int i_6), (0, .ref h0), (1, .int p1)]) (fun (i_6, σ_7, ρ_8) => (8 - i_6.toInt).toNat) ?_ ⟨0, σ_3, ρ⟩ ⟨(by decide), (by decide), k_5, k_4, hB, hS, lv_sub hl [0, 1, 2] rfl⟩
  rintro ⟨i_6, σ_7, ρ_8⟩ H locs ls ⟨li_6, ui_6, k_10, k_11, hB, hS, hl⟩ ih_9
  refine lv_iload_n hx hb dX12_findsGifts_12 rfl (lv_at hl 0 rfl) ?_
  refine lv_bipush (v := 8) hx hb dX12_findsGifts_13 (by decide) ?_
  refine lv_icmp_ge (tgt := 31) hx hb dX12_findsGifts_15 (by decide) (fun c_12 => ?_) (fun c_12 => ?_)
  · skip
    have uc_12 := i_ge (n := 8) (by decide) c_12
    refine lv_iconst (v := 0) hx hb dX12_findsGifts_31 (by decide) ?_
    refine lv_istore_n (lv' := [(2, .int 0), (0, .ref h0), (1, .int p1)]) hx hb dX12_findsGifts_32 rfl hl (by decide) rfl (fun ls hl => ?_)
    refine w_loop (α := Int32 × Sg × Lg) (fun (i_13, σ_14, ρ_15) H locs ls => 0 ≤ i_13.toInt ∧ i_13.toInt ≤ 2147483647 ∧ TS D cA L T r ry [(12, 33), (12, 34), (73, 1000), (78, 1000)] σ σ_14 ρ_15 H ∧ va_S (dm L s.heap.size) s.heap H locs ∧ lv_has ls 4 [(2, .int i_13), (0, .ref h0), (1, .int p1)]) (fun (i_13, σ_14, ρ_15) => (2147483647 - i_13.toInt).toNat) ?_ ⟨0, σ_7, ρ_8⟩ ⟨(by decide), (by decide), hB, hS, lv_sub hl [0, 1, 2] rfl⟩
    rintro ⟨i_13, σ_14, ρ_15⟩ H locs ls ⟨li_13, ui_13, hB, hS, hl⟩ ih_16
    refine lv_iload_n hx hb dX12_findsGifts_33 rfl (lv_at hl 0 rfl) ?_
    refine lv_iconst (v := 1) hx hb dX12_findsGifts_34 (by decide) ?_
    refine lv_iload_n hx hb dX12_findsGifts_35 rfl (lv_at hl 2 rfl) ?_
    refine lv_ishl hx hb dX12_findsGifts_36 ?_
    refine lv_topi (fun x_17 ex_17 => ?_)
    have lx_17 := i_lo x_17
    have ux_17 := i_hi x_17
    refine lv_icmp_ge (tgt := 128) hx hb dX12_findsGifts_37 (by decide) (fun c_18 => ?_) (fun c_18 => ?_)
    · skip
      have uc_18 := j_le c_18
      exact W.vret hx hb hr (fun t ht hW => ⟨⟨(σ_14, ρ_15), rfl, ⟨hB.2.1, hB.2.2, trivial⟩, (show TP D cA L T r σ_14 ρ_15 t.heap from by rw [ht]; exact hB.1)⟩, hS.F ht⟩) hS.2.2 dX12_findsGifts_128
    · skip
      have uc_18 := j_nle c_18
      refine lv_iload_n hx hb dX12_findsGifts_40 rfl (lv_at hl 2 rfl) ?_
      refine lv_aload_n hx hb dX12_findsGifts_41 rfl (lv_at hl 1 rfl) ?_
      refine t_gr hx hb hts hown hK hG hB mh0 th0 fq_12_20 rfl mw_5_236 dX12_findsGifts_42 (fun b_19 hb_19 mb_19 tb_19 => ?_)
      refine lv_iconst (v := 2) hx hb dX12_findsGifts_45 (by decide) ?_
      refine t_aj hx hb hK hB mb_19 tb_19 ai_70 (i_in (by decide) (by decide)) dX12_findsGifts_46 (fun x_20 ex_20 lx_20 ux_20 => ?_)
      have lx_20 : 0 ≤ x_20.toInt := lx_20
      have ux_20 : x_20.toInt ≤ 8 := ux_20
      have cx_20 := congrArg Int32.toInt ex_20
      refine lv_icmp_gt (tgt := 128) hx hb dX12_findsGifts_47 (by decide) (fun c_21 => ?_) (fun c_21 => ?_)
      · skip
        have uc_21 := j_lt c_21
        exact W.vret hx hb hr (fun t ht hW => ⟨⟨(σ_14, ρ_15), rfl, ⟨hB.2.1, hB.2.2, trivial⟩, (show TP D cA L T r σ_14 ρ_15 t.heap from by rw [ht]; exact hB.1)⟩, hS.F ht⟩) hS.2.2 dX12_findsGifts_128
      · skip
        have uc_21 := j_nlt c_21
        refine lv_aload_n hx hb dX12_findsGifts_50 rfl (lv_at hl 1 rfl) ?_
        refine lv_iload_n hx hb dX12_findsGifts_51 rfl (lv_at hl 0 rfl) ?_
        refine lv_iload_n hx hb dX12_findsGifts_52 rfl (lv_at hl 2 rfl) ?_
        refine t_ci (va_runV (As := [.int i_13, .int p1]) (rest := []) ⟨hx, hb, hml, hown, hts⟩ (cy_X12_isGift l D cA L T r hG hLA.1 σ_14 ρ_15 hB.2.1 _ h0 mh0 th0 i_13 p1 (by first | omega | decide) (by first | omega | decide)) (cV hts mv_X12_isGift mw_8_69 rfl rfl ⟨Nat.le_of_ble_eq_true rfl, Nat.le_of_ble_eq_true rfl⟩) (pV hB.1 hK hN mh0 th0 (show shp cA 12 _ _ _ = .inr (12, Fs12 _ _ _) from rfl) rfl) rfl rfl hl.1 rfl (lv_room (Nat.le_of_ble_eq_true rfl)) dX12_findsGifts_53 ⟨Nat.le_of_ble_eq_true rfl, Nat.le_of_ble_eq_true rfl⟩) hLA hA hB hS (by decide) (fun x_24 σ_22 ρ_23 H locs hB fσ_22 pσ_22 hS => ?_)
        obtain ⟨lx_24, ux_24⟩ := pσ_22
        refine lv_if_ne (tgt := 62) hx hb dX12_findsGifts_56 (by decide) (fun c_25 => ?_) (fun c_25 => ?_)
        · skip
          have uc_25 := i_ne (n := 0) (by decide) c_25
          refine lv_aload_n hx hb dX12_findsGifts_62 rfl (lv_at hl 1 rfl) ?_
          refine t_gi hx hb hts hown hK hB mh0 th0 fi_12_33 rfl mw_6_9 dX12_findsGifts_63 (fun x_26 ex_26 lx_26 ux_26 => ?_)
          have cx_26 := congrArg Int32.toInt ex_26
          refine lv_if_ne (tgt := 74) hx hb dX12_findsGifts_66 (by decide) (fun c_27 => ?_) (fun c_27 => ?_)
          · skip
            have uc_27 := i_ne (n := 0) (by decide) c_27
            refine lv_aload_n hx hb dX12_findsGifts_74 rfl (lv_at hl 1 rfl) ?_
            refine lv_dup hx hb dX12_findsGifts_75 rfl ?_
            refine t_gv hx hb hts hown hK hB mh0 th0 fi_12_33 ex_26.symm mw_6_9 dX12_findsGifts_76 ?_
            refine lv_iconst (v := 1) hx hb dX12_findsGifts_79 (by decide) ?_
            refine lv_iadd hx hb dX12_findsGifts_80 ?_
            refine lv_topi (fun x_28 ex_28 => ?_)
            try have vx_28 := b_add (rfl : x_26.toInt = _) (by decide : (1 : Int32).toInt = 1) ex_28 (by omega) (by omega)
            refine t_pi hx hb hts hown hK hLA hB hS mh0 th0 fi_12_33 rfl rfl rfl (i_lo _) (i_hi _) (Or.inl (by decide)) mw_6_9 dX12_findsGifts_81 (fun H locs σ_29 eσ_29 hB hS => ?_)
            have k_30 : σ_29 h0 33 = x_28 := by rw [eσ_29]; exact up2_same _ _ _ _
            refine lv_iconst (v := 0) hx hb dX12_findsGifts_84 (by decide) ?_
            refine lv_istore_n (lv' := [(3, .int 0), (2, .int i_13), (0, .ref h0), (1, .int p1)]) hx hb dX12_findsGifts_85 rfl hl (by decide) rfl (fun ls hl => ?_)
            have k_31 : σ_22 b_19 2 = x_20 := (FR.at fσ_22 tb_19 (by decide)).trans ex_20.symm
            have k_32 : σ_29 b_19 2 = x_20 := by rw [eσ_29, up2_nej _ _ (by decide)]; exact k_31
            refine w_loop (α := Int32 × Sg × Lg) (fun (i_33, σ_34, ρ_35) H locs ls => 0 ≤ i_33.toInt ∧ i_33.toInt ≤ 8 ∧ σ_34 b_19 2 = x_20 ∧ σ_34 h0 33 = x_28 ∧ TS D cA L T r ry [(12, 33), (12, 34), (73, 1000), (78, 1000)] σ σ_34 ρ_35 H ∧ va_S (dm L s.heap.size) s.heap H locs ∧ lv_has ls 4 [(3, .int i_33), (2, .int i_13), (0, .ref h0), (1, .int p1)]) (fun (i_33, σ_34, ρ_35) => (8 - i_33.toInt).toNat) ?_ ⟨0, σ_29, ρ_23⟩ ⟨(by decide), (by decide), k_32, k_30, hB, hS, lv_sub hl [0, 1, 2, 3] rfl⟩
            rintro ⟨i_33, σ_34, ρ_35⟩ H locs ls ⟨li_33, ui_33, k_37, k_38, hB, hS, hl⟩ ih_36
            refine lv_iload_n hx hb dX12_findsGifts_86 rfl (lv_at hl 0 rfl) ?_
            refine lv_iload_n hx hb dX12_findsGifts_87 rfl (lv_at hl 3 rfl) ?_
            refine lv_icmp_ge (tgt := 122) hx hb dX12_findsGifts_88 (by decide) (fun c_39 => ?_) (fun c_39 => ?_)
            · skip
              have uc_39 := j_le c_39
              obtain ⟨x_40, ex_40⟩ : ∃ y : Int32, y = i_13 + 1 := ⟨_, rfl⟩
              try have vx_40 := b_add (rfl : i_13.toInt = _) (by decide : (1 : Int32).toInt = 1) ex_40 (by omega) (by omega)
              refine lv_iinc (v := x_40) (lv' := [(2, .int x_40), (3, .int i_33), (0, .ref h0), (1, .int p1)]) hx hb dX12_findsGifts_122 hl (k := 1) rfl (by rw [ex_40]; rfl) (by decide) rfl (fun ls hl => ?_)
              refine lv_goto (tgt := 33) hx hb dX12_findsGifts_125 (by decide) ?_
              exact ih_16 ⟨x_40, σ_34, ρ_35⟩ _ _ _ ⟨(by omega), (by omega), hB, hS, lv_sub hl [0, 2, 3] rfl⟩ (by show (2147483647 - x_40.toInt).toNat < (2147483647 - i_13.toInt).toNat; omega)
            · skip
              have uc_39 := j_nle c_39
              refine lv_aload_n hx hb dX12_findsGifts_91 rfl (lv_at hl 2 rfl) ?_
              refine t_gr hx hb hts hown hK hG hB mh0 th0 fq_12_35 rfl mw_6_11 dX12_findsGifts_92 (fun b_41 hb_41 mb_41 tb_41 => ?_)
              refine lv_iload_n hx hb dX12_findsGifts_95 rfl (lv_at hl 0 rfl) ?_
              refine lv_dup2_11 hx hb dX12_findsGifts_96 rfl rfl ?_
              refine t_ai hx hb hK hB mb_41 tb_41 ai_78 (fun _ => rfl) (i_in (by omega) (by omega)) dX12_findsGifts_97 (fun x_42 ex_42 lx_42 ux_42 => ?_)
              have cx_42 := congrArg Int32.toInt ex_42
              refine lv_iconst (v := 1) hx hb dX12_findsGifts_98 (by decide) ?_
              refine lv_aload_n hx hb dX12_findsGifts_99 rfl (lv_at hl 2 rfl) ?_
              refine lv_iload_n hx hb dX12_findsGifts_100 rfl (lv_at hl 0 rfl) ?_
              refine lv_iload_n hx hb dX12_findsGifts_101 rfl (lv_at hl 1 rfl) ?_
              refine lv_iload_n hx hb dX12_findsGifts_102 rfl (lv_at hl 3 rfl) ?_
              refine lv_iconst (v := 1) hx hb dX12_findsGifts_103 (by decide) ?_
              refine lv_isub hx hb dX12_findsGifts_104 ?_
              refine lv_topi (fun x_43 ex_43 => ?_)
              have vx_43 := b_sub (rfl : p1.toInt = _) (by decide : (1 : Int32).toInt = 1) ex_43 (by omega) (by omega)
              refine lv_iload_n hx hb dX12_findsGifts_105 rfl (lv_at hl 0 rfl) ?_
              refine lv_isub hx hb dX12_findsGifts_106 ?_
              refine lv_topi (fun x_44 ex_44 => ?_)
              have vx_44 := b_sub (rfl : x_43.toInt = _) (rfl : i_33.toInt = _) ex_44 (by omega) (by omega)
              refine lv_ishr hx hb dX12_findsGifts_107 ?_
              refine lv_topi (fun x_45 ex_45 => ?_)
              refine lv_iconst (v := 1) hx hb dX12_findsGifts_108 (by decide) ?_
              refine lv_iand hx hb dX12_findsGifts_109 ?_
              refine lv_topi (fun x_46 ex_46 => ?_)
              obtain ⟨lx_46, ux_46⟩ := and_m 1 (n := 1) (by decide) (by decide) (by decide) ex_46
              refine t_ci (va_runV (As := [.int i_33, .int x_46]) (rest := [.int 1, .int x_42, .int i_33, .ref b_41]) ⟨hx, hb, hml, hown, hts⟩ (cy_X12_sortOf l D cA L T r hG hLA.1 σ_34 ρ_35 hB.2.1 _ h0 mh0 th0 i_33 x_46 (by first | omega | decide) (by first | omega | decide) (by first | omega | decide) (by first | omega | decide)) (cV hts mv_X12_sortOf mw_7_94 rfl rfl ⟨Nat.le_of_ble_eq_true rfl, Nat.le_of_ble_eq_true rfl⟩) (pV hB.1 hK hN mh0 th0 (show shp cA 12 _ _ _ = .inr (12, Fs12 _ _ _) from rfl) rfl) rfl rfl hl.1 rfl (lv_room (Nat.le_of_ble_eq_true rfl)) dX12_findsGifts_110 ⟨Nat.le_of_ble_eq_true rfl, Nat.le_of_ble_eq_true rfl⟩) hLA hA hB hS (by decide) (fun x_49 σ_47 ρ_48 H locs hB fσ_47 pσ_47 hS => ?_)
              have qσ_47 := FR.nil fσ_47
              subst qσ_47
              obtain ⟨lx_49, ux_49⟩ := pσ_47
              refine lv_ishl hx hb dX12_findsGifts_113 ?_
              refine lv_topi (fun x_50 ex_50 => ?_)
              have lx_50 := i_lo x_50
              have ux_50 := i_hi x_50
              refine lv_ior hx hb dX12_findsGifts_114 ?_
              refine lv_topi (fun x_51 ex_51 => ?_)
              refine t_si hx hb hK hLA hB hS mb_41 tb_41 ai_78 (i_in (by omega) (by omega)) (i_lo _) (i_hi _) (Or.inr (by decide)) dX12_findsGifts_115 (fun H locs σ_52 eσ_52 hB hS => ?_)
              have k_53 : σ_52 b_41 i_33.toNatClampNeg = x_51 := by rw [eσ_52]; exact up2_same _ _ _ _
              obtain ⟨x_54, ex_54⟩ : ∃ y : Int32, y = i_33 + 1 := ⟨_, rfl⟩
              have vx_54 := b_add (rfl : i_33.toInt = _) (by decide : (1 : Int32).toInt = 1) ex_54 (by omega) (by omega)
              refine lv_iinc (v := x_54) (lv' := [(3, .int x_54), (2, .int i_13), (0, .ref h0), (1, .int p1)]) hx hb dX12_findsGifts_116 hl (k := 0) rfl (by rw [ex_54]; rfl) (by decide) rfl (fun ls hl => ?_)
              refine lv_goto (tgt := 86) hx hb dX12_findsGifts_119 (by decide) ?_
              have k_55 : σ_52 b_19 2 = x_20 := by rw [eσ_52, up2_nea _ _ (tg_ne tb_19 tb_41 (by decide))]; exact k_37
              have k_56 : σ_52 h0 33 = x_28 := by rw [eσ_52, up2_nea _ _ (tg_ne th0 tb_41 (by decide))]; exact k_38
              exact ih_36 ⟨x_54, σ_52, ρ_48⟩ _ _ _ ⟨(by omega), (by omega), k_55, k_56, hB, hS, lv_sub hl [0, 1, 2, 3] rfl⟩ (by show (8 - x_54.toInt).toNat < (8 - i_33.toInt).toNat; omega)
          · skip
            have uc_27 := i_eq (n := 0) (by decide) c_27
            refine lv_aload_n hx hb dX12_findsGifts_69 rfl (lv_at hl 1 rfl) ?_
            refine lv_iload_n hx hb dX12_findsGifts_70 rfl (lv_at hl 0 rfl) ?_
            refine t_pi hx hb hts hown hK hLA hB hS mh0 th0 fi_12_34 rfl rfl rfl (i_lo _) (i_hi _) (Or.inl (by decide)) mw_6_10 dX12_findsGifts_71 (fun H locs σ_57 eσ_57 hB hS => ?_)
            have k_58 : σ_57 h0 34 = i_13 := by rw [eσ_57]; exact up2_same _ _ _ _
            refine lv_aload_n hx hb dX12_findsGifts_74 rfl (lv_at hl 1 rfl) ?_
            refine lv_dup hx hb dX12_findsGifts_75 rfl ?_
            have k_59 : σ_57 h0 33 = x_26 := by rw [eσ_57, up2_nej _ _ (by decide)]; exact ex_26.symm
            refine t_gv hx hb hts hown hK hB mh0 th0 fi_12_33 k_59 mw_6_9 dX12_findsGifts_76 ?_
            refine lv_iconst (v := 1) hx hb dX12_findsGifts_79 (by decide) ?_
            refine lv_iadd hx hb dX12_findsGifts_80 ?_
            refine lv_topi (fun x_60 ex_60 => ?_)
            have vx_60 := b_add (rfl : x_26.toInt = _) (by decide : (1 : Int32).toInt = 1) ex_60 (by omega) (by omega)
            refine t_pi hx hb hts hown hK hLA hB hS mh0 th0 fi_12_33 rfl rfl rfl (i_lo _) (i_hi _) (Or.inl (by decide)) mw_6_9 dX12_findsGifts_81 (fun H locs σ_61 eσ_61 hB hS => ?_)
            have k_62 : σ_61 h0 33 = x_60 := by rw [eσ_61]; exact up2_same _ _ _ _
            refine lv_iconst (v := 0) hx hb dX12_findsGifts_84 (by decide) ?_
            refine lv_istore_n (lv' := [(3, .int 0), (2, .int i_13), (0, .ref h0), (1, .int p1)]) hx hb dX12_findsGifts_85 rfl hl (by decide) rfl (fun ls hl => ?_)
            have k_63 : σ_22 b_19 2 = x_20 := (FR.at fσ_22 tb_19 (by decide)).trans ex_20.symm
            have k_64 : σ_57 b_19 2 = x_20 := by rw [eσ_57, up2_nej _ _ (by decide)]; exact k_63
            have k_65 : σ_61 b_19 2 = x_20 := by rw [eσ_61, up2_nej _ _ (by decide)]; exact k_64
            have k_66 : σ_61 h0 34 = i_13 := by rw [eσ_61, up2_nej _ _ (by decide)]; exact k_58
            refine w_loop (α := Int32 × Sg × Lg) (fun (i_67, σ_68, ρ_69) H locs ls => 0 ≤ i_67.toInt ∧ i_67.toInt ≤ 8 ∧ σ_68 b_19 2 = x_20 ∧ σ_68 h0 34 = i_13 ∧ σ_68 h0 33 = x_60 ∧ TS D cA L T r ry [(12, 33), (12, 34), (73, 1000), (78, 1000)] σ σ_68 ρ_69 H ∧ va_S (dm L s.heap.size) s.heap H locs ∧ lv_has ls 4 [(3, .int i_67), (2, .int i_13), (0, .ref h0), (1, .int p1)]) (fun (i_67, σ_68, ρ_69) => (8 - i_67.toInt).toNat) ?_ ⟨0, σ_61, ρ_23⟩ ⟨(by decide), (by decide), k_65, k_66, k_62, hB, hS, lv_sub hl [0, 1, 2, 3] rfl⟩
            rintro ⟨i_67, σ_68, ρ_69⟩ H locs ls ⟨li_67, ui_67, k_71, k_72, k_73, hB, hS, hl⟩ ih_70
            refine lv_iload_n hx hb dX12_findsGifts_86 rfl (lv_at hl 0 rfl) ?_
            refine lv_iload_n hx hb dX12_findsGifts_87 rfl (lv_at hl 3 rfl) ?_
            refine lv_icmp_ge (tgt := 122) hx hb dX12_findsGifts_88 (by decide) (fun c_74 => ?_) (fun c_74 => ?_)
            · skip
              have uc_74 := j_le c_74
              obtain ⟨x_75, ex_75⟩ : ∃ y : Int32, y = i_13 + 1 := ⟨_, rfl⟩
              try have vx_75 := b_add (rfl : i_13.toInt = _) (by decide : (1 : Int32).toInt = 1) ex_75 (by omega) (by omega)
              refine lv_iinc (v := x_75) (lv' := [(2, .int x_75), (3, .int i_67), (0, .ref h0), (1, .int p1)]) hx hb dX12_findsGifts_122 hl (k := 1) rfl (by rw [ex_75]; rfl) (by decide) rfl (fun ls hl => ?_)
              refine lv_goto (tgt := 33) hx hb dX12_findsGifts_125 (by decide) ?_
              exact ih_16 ⟨x_75, σ_68, ρ_69⟩ _ _ _ ⟨(by omega), (by omega), hB, hS, lv_sub hl [0, 2, 3] rfl⟩ (by show (2147483647 - x_75.toInt).toNat < (2147483647 - i_13.toInt).toNat; omega)
            · skip
              have uc_74 := j_nle c_74
              refine lv_aload_n hx hb dX12_findsGifts_91 rfl (lv_at hl 2 rfl) ?_
              refine t_gr hx hb hts hown hK hG hB mh0 th0 fq_12_35 rfl mw_6_11 dX12_findsGifts_92 (fun b_76 hb_76 mb_76 tb_76 => ?_)
              refine lv_iload_n hx hb dX12_findsGifts_95 rfl (lv_at hl 0 rfl) ?_
              refine lv_dup2_11 hx hb dX12_findsGifts_96 rfl rfl ?_
              refine t_ai hx hb hK hB mb_76 tb_76 ai_78 (fun _ => rfl) (i_in (by omega) (by omega)) dX12_findsGifts_97 (fun x_77 ex_77 lx_77 ux_77 => ?_)
              have cx_77 := congrArg Int32.toInt ex_77
              refine lv_iconst (v := 1) hx hb dX12_findsGifts_98 (by decide) ?_
              refine lv_aload_n hx hb dX12_findsGifts_99 rfl (lv_at hl 2 rfl) ?_
              refine lv_iload_n hx hb dX12_findsGifts_100 rfl (lv_at hl 0 rfl) ?_
              refine lv_iload_n hx hb dX12_findsGifts_101 rfl (lv_at hl 1 rfl) ?_
              refine lv_iload_n hx hb dX12_findsGifts_102 rfl (lv_at hl 3 rfl) ?_
              refine lv_iconst (v := 1) hx hb dX12_findsGifts_103 (by decide) ?_
              refine lv_isub hx hb dX12_findsGifts_104 ?_
              refine lv_topi (fun x_78 ex_78 => ?_)
              have vx_78 := b_sub (rfl : p1.toInt = _) (by decide : (1 : Int32).toInt = 1) ex_78 (by omega) (by omega)
              refine lv_iload_n hx hb dX12_findsGifts_105 rfl (lv_at hl 0 rfl) ?_
              refine lv_isub hx hb dX12_findsGifts_106 ?_
              refine lv_topi (fun x_79 ex_79 => ?_)
              have vx_79 := b_sub (rfl : x_78.toInt = _) (rfl : i_67.toInt = _) ex_79 (by omega) (by omega)
              refine lv_ishr hx hb dX12_findsGifts_107 ?_
              refine lv_topi (fun x_80 ex_80 => ?_)
              refine lv_iconst (v := 1) hx hb dX12_findsGifts_108 (by decide) ?_
              refine lv_iand hx hb dX12_findsGifts_109 ?_
              refine lv_topi (fun x_81 ex_81 => ?_)
              obtain ⟨lx_81, ux_81⟩ := and_m 1 (n := 1) (by decide) (by decide) (by decide) ex_81
              refine t_ci (va_runV (As := [.int i_67, .int x_81]) (rest := [.int 1, .int x_77, .int i_67, .ref b_76]) ⟨hx, hb, hml, hown, hts⟩ (cy_X12_sortOf l D cA L T r hG hLA.1 σ_68 ρ_69 hB.2.1 _ h0 mh0 th0 i_67 x_81 (by first | omega | decide) (by first | omega | decide) (by first | omega | decide) (by first | omega | decide)) (cV hts mv_X12_sortOf mw_7_94 rfl rfl ⟨Nat.le_of_ble_eq_true rfl, Nat.le_of_ble_eq_true rfl⟩) (pV hB.1 hK hN mh0 th0 (show shp cA 12 _ _ _ = .inr (12, Fs12 _ _ _) from rfl) rfl) rfl rfl hl.1 rfl (lv_room (Nat.le_of_ble_eq_true rfl)) dX12_findsGifts_110 ⟨Nat.le_of_ble_eq_true rfl, Nat.le_of_ble_eq_true rfl⟩) hLA hA hB hS (by decide) (fun x_84 σ_82 ρ_83 H locs hB fσ_82 pσ_82 hS => ?_)
              have qσ_82 := FR.nil fσ_82
              subst qσ_82
              obtain ⟨lx_84, ux_84⟩ := pσ_82
              refine lv_ishl hx hb dX12_findsGifts_113 ?_
              refine lv_topi (fun x_85 ex_85 => ?_)
              have lx_85 := i_lo x_85
              have ux_85 := i_hi x_85
              refine lv_ior hx hb dX12_findsGifts_114 ?_
              refine lv_topi (fun x_86 ex_86 => ?_)
              refine t_si hx hb hK hLA hB hS mb_76 tb_76 ai_78 (i_in (by omega) (by omega)) (i_lo _) (i_hi _) (Or.inr (by decide)) dX12_findsGifts_115 (fun H locs σ_87 eσ_87 hB hS => ?_)
              have k_88 : σ_87 b_76 i_67.toNatClampNeg = x_86 := by rw [eσ_87]; exact up2_same _ _ _ _
              obtain ⟨x_89, ex_89⟩ : ∃ y : Int32, y = i_67 + 1 := ⟨_, rfl⟩
              have vx_89 := b_add (rfl : i_67.toInt = _) (by decide : (1 : Int32).toInt = 1) ex_89 (by omega) (by omega)
              refine lv_iinc (v := x_89) (lv' := [(3, .int x_89), (2, .int i_13), (0, .ref h0), (1, .int p1)]) hx hb dX12_findsGifts_116 hl (k := 0) rfl (by rw [ex_89]; rfl) (by decide) rfl (fun ls hl => ?_)
              refine lv_goto (tgt := 86) hx hb dX12_findsGifts_119 (by decide) ?_
              have k_90 : σ_87 b_19 2 = x_20 := by rw [eσ_87, up2_nea _ _ (tg_ne tb_19 tb_76 (by decide))]; exact k_71
              have k_91 : σ_87 h0 34 = i_13 := by rw [eσ_87, up2_nea _ _ (tg_ne th0 tb_76 (by decide))]; exact k_72
              have k_92 : σ_87 h0 33 = x_60 := by rw [eσ_87, up2_nea _ _ (tg_ne th0 tb_76 (by decide))]; exact k_73
              exact ih_70 ⟨x_89, σ_87, ρ_83⟩ _ _ _ ⟨(by omega), (by omega), k_90, k_91, k_92, hB, hS, lv_sub hl [0, 1, 2, 3] rfl⟩ (by show (8 - x_89.toInt).toNat < (8 - i_67.toInt).toNat; omega)
        · skip
          have uc_25 := i_eq (n := 0) (by decide) c_25
          refine lv_goto (tgt := 122) hx hb dX12_findsGifts_59 (by decide) ?_
          obtain ⟨x_93, ex_93⟩ : ∃ y : Int32, y = i_13 + 1 := ⟨_, rfl⟩
          try have vx_93 := b_add (rfl : i_13.toInt = _) (by decide : (1 : Int32).toInt = 1) ex_93 (by omega) (by omega)
          refine lv_iinc (v := x_93) (lv' := [(2, .int x_93), (0, .ref h0), (1, .int p1)]) hx hb dX12_findsGifts_122 hl (k := 0) rfl (by rw [ex_93]; rfl) (by decide) rfl (fun ls hl => ?_)
          refine lv_goto (tgt := 33) hx hb dX12_findsGifts_125 (by decide) ?_
          exact ih_16 ⟨x_93, σ_22, ρ_23⟩ _ _ _ ⟨(by omega), (by omega), hB, hS, lv_sub hl [0, 1, 2] rfl⟩ (by show (2147483647 - x_93.toInt).toNat < (2147483647 - i_13.toInt).toNat; omega)
  · skip
    have uc_12 := i_nge (n := 8) (by decide) c_12
    refine lv_aload_n hx hb dX12_findsGifts_18 rfl (lv_at hl 1 rfl) ?_
    refine t_gr hx hb hts hown hK hG hB mh0 th0 fq_12_35 rfl mw_6_11 dX12_findsGifts_19 (fun b_94 hb_94 mb_94 tb_94 => ?_)
    refine lv_iload_n hx hb dX12_findsGifts_22 rfl (lv_at hl 0 rfl) ?_
    refine lv_iconst (v := 0) hx hb dX12_findsGifts_23 (by decide) ?_
    refine t_si hx hb hK hLA hB hS mb_94 tb_94 ai_78 (i_in (by omega) (by omega)) (i_lo _) (i_hi _) (Or.inr (by decide)) dX12_findsGifts_24 (fun H locs σ_95 eσ_95 hB hS => ?_)
    have k_96 : σ_95 b_94 i_6.toNatClampNeg = 0 := by rw [eσ_95]; exact up2_same _ _ _ _
    obtain ⟨x_97, ex_97⟩ : ∃ y : Int32, y = i_6 + 1 := ⟨_, rfl⟩
    have vx_97 := b_add (rfl : i_6.toInt = _) (by decide : (1 : Int32).toInt = 1) ex_97 (by omega) (by omega)
    refine lv_iinc (v := x_97) (lv' := [(2, .int x_97), (0, .ref h0), (1, .int p1)]) hx hb dX12_findsGifts_25 hl (k := 0) rfl (by rw [ex_97]; rfl) (by decide) rfl (fun ls hl => ?_)
    refine lv_goto (tgt := 12) hx hb dX12_findsGifts_28 (by decide) ?_
    have k_98 : σ_95 h0 33 = 0 := by rw [eσ_95, up2_nea _ _ (tg_ne th0 tb_94 (by decide))]; exact k_10
    have k_99 : σ_95 h0 34 = 0 := by rw [eσ_95, up2_nea _ _ (tg_ne th0 tb_94 (by decide))]; exact k_11
    exact ih_9 ⟨x_97, σ_95, ρ_8⟩ _ _ _ ⟨(by omega), (by omega), k_98, k_99, hB, hS, lv_sub hl [0, 1, 2] rfl⟩ (by show (8 - x_97.toInt).toNat < (8 - i_6.toInt).toNat; omega)
