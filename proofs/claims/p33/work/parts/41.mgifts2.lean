theorem r_10 {x z : Int32} (h : z = x - x / 10 * 10) (h0 : 0 ≤ x.toInt) : z.toInt = x.toInt % 10 := by
  obtain ⟨a, ha, rfl⟩ := nI_of (a_nn h0)
  rw [h, show (10 : Int32) = nI 10 from rfl, pk_rem ha (by decide) (by decide), nI_toInt (by omega), nI_toInt ha]
  omega
theorem mw_8_62 : (.constantLong RX12 431 (-1) : Cond) ∈ wsA := wsA_t (List.mem_append_right _ (List.mem_append_right _ (List.mem_append_right _ (List.mem_append_right _ (List.mem_append_right _ (List.mem_append_right _ (List.mem_append_right _ (List.mem_of_getElem? (l := tables_1_8) (i := 62) rfl)))))))) rfl
theorem mw_8_67 : (.instanceMethod yX12_findsGifts : Cond) ∈ wsA := wsA_t (List.mem_append_right _ (List.mem_append_right _ (List.mem_append_right _ (List.mem_append_right _ (List.mem_append_right _ (List.mem_append_right _ (List.mem_append_right _ (List.mem_of_getElem? (l := tables_1_8) (i := 67) rfl)))))))) rfl
theorem mp_8_2 : (.selects RX12 yX12_findsGifts yX12_findsGifts : Cond) ∈ wsA := wsA_p (q := (yX12_findsGifts, 44)) (List.mem_append_right _ (List.mem_append_right _ (List.mem_append_right _ (List.mem_append_right _ (List.mem_append_right _ (List.mem_append_right _ (List.mem_append_right _ (List.mem_of_getElem? (l := lw_privs_8) (i := 2) rfl))))))))
theorem mw_8_68 : (.code yX12_findsGifts cX12_findsGifts 4 none : Cond) ∈ wsA := wsA_t (List.mem_append_right _ (List.mem_append_right _ (List.mem_append_right _ (List.mem_append_right _ (List.mem_append_right _ (List.mem_append_right _ (List.mem_append_right _ (List.mem_of_getElem? (l := tables_1_8) (i := 68) rfl)))))))) rfl
theorem mw_8_65 : (.methodLink RX12 437 yX12_findsGifts : Cond) ∈ wsA := wsA_t (List.mem_append_right _ (List.mem_append_right _ (List.mem_append_right _ (List.mem_append_right _ (List.mem_append_right _ (List.mem_append_right _ (List.mem_append_right _ (List.mem_of_getElem? (l := tables_1_8) (i := 65) rfl)))))))) rfl
theorem mw_8_63 : (.constantLong RX12 433 10 : Cond) ∈ wsA := wsA_t (List.mem_append_right _ (List.mem_append_right _ (List.mem_append_right _ (List.mem_append_right _ (List.mem_append_right _ (List.mem_append_right _ (List.mem_append_right _ (List.mem_of_getElem? (l := tables_1_8) (i := 63) rfl)))))))) rfl
theorem mw_8_64 : (.constantLong RX12 435 17 : Cond) ∈ wsA := wsA_t (List.mem_append_right _ (List.mem_append_right _ (List.mem_append_right _ (List.mem_append_right _ (List.mem_append_right _ (List.mem_append_right _ (List.mem_append_right _ (List.mem_of_getElem? (l := tables_1_8) (i := 64) rfl)))))))) rfl
theorem dX12_gifts_0 : decode cX12_gifts 0 = .ok (.aload_n 0, 1) := by decide +kernel
theorem dX12_gifts_1 : decode cX12_gifts 1 = .ok (.invokevirtual 354, 3) := by decide +kernel
theorem dX12_gifts_4 : decode cX12_gifts 4 = .ok (.ifCond .eq 31, 3) := by decide +kernel
theorem dX12_gifts_35 : decode cX12_gifts 35 = .ok (.bipush (-3), 2) := by decide +kernel
theorem dX12_gifts_37 : decode cX12_gifts 37 = .ok (.ireturn, 1) := by decide +kernel
theorem dX12_gifts_7 : decode cX12_gifts 7 = .ok (.iload_n 1, 1) := by decide +kernel
theorem dX12_gifts_8 : decode cX12_gifts 8 = .ok (.i2l, 1) := by decide +kernel
theorem dX12_gifts_9 : decode cX12_gifts 9 = .ok (.ldc2_w 431, 3) := by decide +kernel
theorem dX12_gifts_12 : decode cX12_gifts 12 = .ok (.ldc2_w 330, 3) := by decide +kernel
theorem dX12_gifts_15 : decode cX12_gifts 15 = .ok (.invokestatic 130, 3) := by decide +kernel
theorem dX12_gifts_18 : decode cX12_gifts 18 = .ok (.ifCond .ne 20, 3) := by decide +kernel
theorem dX12_gifts_38 : decode cX12_gifts 38 = .ok (.iconst 0, 1) := by decide +kernel
theorem dX12_gifts_39 : decode cX12_gifts 39 = .ok (.istore_n 2, 1) := by decide +kernel
theorem dX12_gifts_40 : decode cX12_gifts 40 = .ok (.iconst 0, 1) := by decide +kernel
theorem dX12_gifts_41 : decode cX12_gifts 41 = .ok (.istore_n 3, 1) := by decide +kernel
theorem dX12_gifts_42 : decode cX12_gifts 42 = .ok (.iload_n 3, 1) := by decide +kernel
theorem dX12_gifts_43 : decode cX12_gifts 43 = .ok (.iconst 5, 1) := by decide +kernel
theorem dX12_gifts_44 : decode cX12_gifts 44 = .ok (.if_icmp .ge 22, 3) := by decide +kernel
theorem dX12_gifts_47 : decode cX12_gifts 47 = .ok (.iload_n 2, 1) := by decide +kernel
theorem dX12_gifts_48 : decode cX12_gifts 48 = .ok (.aload_n 0, 1) := by decide +kernel
theorem dX12_gifts_49 : decode cX12_gifts 49 = .ok (.getfield 39, 3) := by decide +kernel
theorem dX12_gifts_52 : decode cX12_gifts 52 = .ok (.sipush 165, 3) := by decide +kernel
theorem dX12_gifts_55 : decode cX12_gifts 55 = .ok (.iload_n 3, 1) := by decide +kernel
theorem dX12_gifts_56 : decode cX12_gifts 56 = .ok (.iadd, 1) := by decide +kernel
theorem dX12_gifts_57 : decode cX12_gifts 57 = .ok (.iaload, 1) := by decide +kernel
theorem dX12_gifts_58 : decode cX12_gifts 58 = .ok (.iadd, 1) := by decide +kernel
theorem dX12_gifts_59 : decode cX12_gifts 59 = .ok (.istore_n 2, 1) := by decide +kernel
theorem dX12_gifts_60 : decode cX12_gifts 60 = .ok (.iinc 3 1, 3) := by decide +kernel
theorem dX12_gifts_63 : decode cX12_gifts 63 = .ok (.goto (-21), 3) := by decide +kernel
theorem dX12_gifts_66 : decode cX12_gifts 66 = .ok (.aload_n 0, 1) := by decide +kernel
theorem dX12_gifts_67 : decode cX12_gifts 67 = .ok (.iload_n 2, 1) := by decide +kernel
theorem dX12_gifts_68 : decode cX12_gifts 68 = .ok (.invokevirtual 437, 3) := by decide +kernel
theorem dX12_gifts_71 : decode cX12_gifts 71 = .ok (.iload_n 1, 1) := by decide +kernel
theorem dX12_gifts_72 : decode cX12_gifts 72 = .ok (.iconst (-1), 1) := by decide +kernel
theorem dX12_gifts_73 : decode cX12_gifts 73 = .ok (.if_icmp .ne 8, 3) := by decide +kernel
theorem dX12_gifts_81 : decode cX12_gifts 81 = .ok (.iload_n 1, 1) := by decide +kernel
theorem dX12_gifts_82 : decode cX12_gifts 82 = .ok (.bipush 10, 2) := by decide +kernel
theorem dX12_gifts_84 : decode cX12_gifts 84 = .ok (.irem, 1) := by decide +kernel
theorem dX12_gifts_85 : decode cX12_gifts 85 = .ok (.istore_n 3, 1) := by decide +kernel
theorem dX12_gifts_86 : decode cX12_gifts 86 = .ok (.aload_n 0, 1) := by decide +kernel
theorem dX12_gifts_87 : decode cX12_gifts 87 = .ok (.getfield 422, 3) := by decide +kernel
theorem dX12_gifts_90 : decode cX12_gifts 90 = .ok (.ifCond .eq 8, 3) := by decide +kernel
theorem dX12_gifts_98 : decode cX12_gifts 98 = .ok (.bipush (-2), 2) := by decide +kernel
theorem dX12_gifts_100 : decode cX12_gifts 100 = .ok (.ireturn, 1) := by decide +kernel
theorem dX12_gifts_93 : decode cX12_gifts 93 = .ok (.iload_n 3, 1) := by decide +kernel
theorem dX12_gifts_94 : decode cX12_gifts 94 = .ok (.iload_n 2, 1) := by decide +kernel
theorem dX12_gifts_95 : decode cX12_gifts 95 = .ok (.if_icmp .lt 6, 3) := by decide +kernel
theorem dX12_gifts_101 : decode cX12_gifts 101 = .ok (.iload_n 1, 1) := by decide +kernel
theorem dX12_gifts_102 : decode cX12_gifts 102 = .ok (.bipush 8, 2) := by decide +kernel
theorem dX12_gifts_104 : decode cX12_gifts 104 = .ok (.if_icmp .ge 12, 3) := by decide +kernel
theorem dX12_gifts_116 : decode cX12_gifts 116 = .ok (.aload_n 0, 1) := by decide +kernel
theorem dX12_gifts_117 : decode cX12_gifts 117 = .ok (.iload_n 3, 1) := by decide +kernel
theorem dX12_gifts_118 : decode cX12_gifts 118 = .ok (.aload_n 0, 1) := by decide +kernel
theorem dX12_gifts_119 : decode cX12_gifts 119 = .ok (.getfield 425, 3) := by decide +kernel
theorem dX12_gifts_122 : decode cX12_gifts 122 = .ok (.iload_n 2, 1) := by decide +kernel
theorem dX12_gifts_123 : decode cX12_gifts 123 = .ok (.iconst 1, 1) := by decide +kernel
theorem dX12_gifts_124 : decode cX12_gifts 124 = .ok (.isub, 1) := by decide +kernel
theorem dX12_gifts_125 : decode cX12_gifts 125 = .ok (.iload_n 3, 1) := by decide +kernel
theorem dX12_gifts_126 : decode cX12_gifts 126 = .ok (.isub, 1) := by decide +kernel
theorem dX12_gifts_127 : decode cX12_gifts 127 = .ok (.ishr, 1) := by decide +kernel
theorem dX12_gifts_128 : decode cX12_gifts 128 = .ok (.iconst 1, 1) := by decide +kernel
theorem dX12_gifts_129 : decode cX12_gifts 129 = .ok (.iand, 1) := by decide +kernel
theorem dX12_gifts_130 : decode cX12_gifts 130 = .ok (.invokevirtual 300, 3) := by decide +kernel
theorem dX12_gifts_133 : decode cX12_gifts 133 = .ok (.ireturn, 1) := by decide +kernel
theorem dX12_gifts_107 : decode cX12_gifts 107 = .ok (.aload_n 0, 1) := by decide +kernel
theorem dX12_gifts_108 : decode cX12_gifts 108 = .ok (.getfield 67, 3) := by decide +kernel
theorem dX12_gifts_111 : decode cX12_gifts 111 = .ok (.iload_n 3, 1) := by decide +kernel
theorem dX12_gifts_112 : decode cX12_gifts 112 = .ok (.iaload, 1) := by decide +kernel
theorem dX12_gifts_113 : decode cX12_gifts 113 = .ok (.goto 20, 3) := by decide +kernel
theorem dX12_gifts_76 : decode cX12_gifts 76 = .ok (.aload_n 0, 1) := by decide +kernel
theorem dX12_gifts_77 : decode cX12_gifts 77 = .ok (.getfield 422, 3) := by decide +kernel
theorem dX12_gifts_80 : decode cX12_gifts 80 = .ok (.ireturn, 1) := by decide +kernel
theorem dX12_gifts_21 : decode cX12_gifts 21 = .ok (.iload_n 1, 1) := by decide +kernel
theorem dX12_gifts_22 : decode cX12_gifts 22 = .ok (.i2l, 1) := by decide +kernel
theorem dX12_gifts_23 : decode cX12_gifts 23 = .ok (.ldc2_w 433, 3) := by decide +kernel
theorem dX12_gifts_26 : decode cX12_gifts 26 = .ok (.ldc2_w 435, 3) := by decide +kernel
theorem dX12_gifts_29 : decode cX12_gifts 29 = .ok (.invokestatic 130, 3) := by decide +kernel
theorem dX12_gifts_32 : decode cX12_gifts 32 = .ok (.ifCond .ne 6, 3) := by decide +kernel
theorem mv_X12_findsGifts : MV RX12 yX12_findsGifts cX12_findsGifts 4 none 1 := ⟨mw_8_67, mp_8_2, mw_1_13, mw_8_68, ⟨rfl, by decide, by decide, by decide +kernel⟩⟩
set_option maxHeartbeats 4000000 in
set_option maxRecDepth 100000 in
theorem cy_X12_gifts (l : Launch) (D : va_G) (cA : Nat → ClassId) (L : List Nat) (T : Nat → Nat) (r : Rg) (hG : GR L T r) (hL : L.Nodup) (σ : Sg) (ρ : Lg) (hW : WT L ry T σ) (sz : Nat) (h0 : Nat) (mh0 : h0 ∈ L) (th0 : T h0 = 12) (p1 : Int32) : Met l yX12_gifts (.code yX12_gifts cX12_gifts 4 (some .int) :: wsA) ({ frames := 3, cells := 0, slots := 0, locals := 70 }) (PR D cA L T r σ ρ sz [.ref h0, .int p1]) (QI D cA L T r ry [(12, 33), (12, 34), (73, 1000), (78, 1000)] σ sz (fun x σ1 => True)) 0 0 (dm L sz) := by
  refine Met.ofW (cc := cX12_gifts) (maxL := 4) (ret := (some .int)) (by decide) rfl ?_
  intro p e s m args below meth c s₁ B hml hv
  obtain ⟨rfl, hsz, hP, hK, hN⟩ := hv
  have hx := B.exec
  have hb := B.bytes
  have hr := B.returns
  have hts : ∀ w ∈ wsA, w.before _ s = true := fun w h => atoms_spec (ws := .code yX12_gifts cX12_gifts 4 (some .int) :: wsA) B.pre w (List.mem_cons_of_mem _ h)
  have hown : s.vm.findClass RX12 = some m.cls := findClass_of_methodNamed B.named
  subst hsz
  have hLA : LA (dm L s.heap.size) L := ⟨hL, fun a h => Or.inl h⟩
  have hA : ∀ q : Nat, s.heap.size ≤ q → dm L s.heap.size q := fun q h => Or.inr h
  have hS : va_S (dm L s.heap.size) s.heap s.heap [] := va_S.rf
  have hB : TS D cA L T r ry [(12, 33), (12, 34), (73, 1000), (78, 1000)] σ σ ρ s.heap := ⟨hP, hW, FR.rf⟩
  have hl := lv_entry ([.ref h0, .int p1]) (n := 4) (Nat.le_of_ble_eq_true rfl)
  rw [lg_entry_eq]
  generalize (lg_sl ([.ref h0, .int p1]) ++ List.replicate (4 - (lg_sl ([.ref h0, .int p1])).length) Slot.unset).toArray = ls at hl ⊢
  have hl : lv_has ls 4 [(0, .ref h0), (1, .int p1)] := hl
  refine lv_aload_n hx hb dX12_gifts_0 rfl (lv_at hl 0 rfl) ?_
  refine t_ci (va_runV (As := []) (rest := []) ⟨hx, hb, hml, hown, hts⟩ (cy_X12_isHill l D cA L T r hG hLA.1 σ ρ hB.2.1 _ h0 mh0 th0) (cV hts mv_X12_isHill mw_7_123 rfl rfl ⟨Nat.le_of_ble_eq_true rfl, Nat.le_of_ble_eq_true rfl⟩) (pV hB.1 hK hN mh0 th0 (show shp cA 12 _ _ _ = .inr (12, Fs12 _ _ _) from rfl) rfl) rfl rfl hl.1 rfl (lv_room (Nat.le_of_ble_eq_true rfl)) dX12_gifts_1 ⟨Nat.le_of_ble_eq_true rfl, Nat.le_of_ble_eq_true rfl⟩) hLA hA hB hS (by decide) (fun x_3 σ_1 ρ_2 H locs hB fσ_1 pσ_1 hS => ?_)
  have qσ_1 := FR.nil fσ_1
  subst qσ_1
  obtain ⟨lx_3, ux_3⟩ := pσ_1
  refine lv_if_eq (tgt := 35) hx hb dX12_gifts_4 (by decide) (fun c_4 => ?_) (fun c_4 => ?_)
  · skip
    have uc_4 := i_eq (n := 0) (by decide) c_4
    refine lv_bipush (v := (-3)) hx hb dX12_gifts_35 (by decide) ?_
    exact W.iret (v := (-3)) hx hb hr (fun t ht hW => ⟨⟨(-3), (σ, ρ_2), rfl, ⟨hB.2.1, hB.2.2, trivial⟩, (show TP D cA L T r σ ρ_2 t.heap from by rw [ht]; exact hB.1)⟩, hS.F ht⟩) hS.2.2 dX12_gifts_37
  · skip
    have uc_4 := i_ne (n := 0) (by decide) c_4
    refine lv_iload_n hx hb dX12_gifts_7 rfl (lv_at hl 1 rfl) ?_
    refine lv_i2l (v := p1.toInt64) hx hb dX12_gifts_8 rfl ?_
    refine lv_ldc2 (v := (-1)) hx hb hown (hts _ mw_8_62) dX12_gifts_9 ?_
    refine lv_ldc2 (v := 7) hx hb hown (hts _ mw_7_93) dX12_gifts_12 ?_
    refine t_ci (va_runS (As := [.long p1.toInt64, .long (-1), .long 7]) (rest := []) ⟨hx, hb, hml, hown, hts⟩ (cy_X12_in_m1_7 l D cA L T r hG hLA.1 σ ρ_2 hB.2.1 _ p1) (cS hts ms_X12_in mw_6_185 rfl rfl ⟨Nat.le_of_ble_eq_true rfl, Nat.le_of_ble_eq_true rfl⟩) (pS hB.1 hK hN) rfl rfl hl.1 rfl (lv_room (Nat.le_of_ble_eq_true rfl)) dX12_gifts_15 ⟨Nat.le_of_ble_eq_true rfl, Nat.le_of_ble_eq_true rfl⟩) hLA hA hB hS (by decide) (fun x_7 σ_5 ρ_6 H locs hB fσ_5 pσ_5 hS => ?_)
    have qσ_5 := FR.nil fσ_5
    subst qσ_5
    obtain ⟨ox_7, ix_7⟩ := pσ_5
    refine lv_if_ne (tgt := 38) hx hb dX12_gifts_18 (by decide) (fun c_8 => ?_) (fun c_8 => ?_)
    · skip
      have uc_8 := i_ne (n := 0) (by decide) c_8
      refine lv_iconst (v := 0) hx hb dX12_gifts_38 (by decide) ?_
      refine lv_istore_n (lv' := [(2, .int 0), (0, .ref h0), (1, .int p1)]) hx hb dX12_gifts_39 rfl hl (by decide) rfl (fun ls hl => ?_)
      refine lv_iconst (v := 0) hx hb dX12_gifts_40 (by decide) ?_
      refine lv_istore_n (lv' := [(3, .int 0), (2, .int 0), (0, .ref h0), (1, .int p1)]) hx hb dX12_gifts_41 rfl hl (by decide) rfl (fun ls hl => ?_)
      refine w_loop (α := Int32 × Int32 × Sg × Lg) (fun (i_9, i_10, σ_11, ρ_12) H locs ls => 0 ≤ i_9.toInt ∧ i_9.toInt ≤ 45 ∧ 0 ≤ i_10.toInt ∧ i_10.toInt ≤ 5 ∧ (i_9.toInt ≤ 9 * i_10.toInt) ∧ TS D cA L T r ry [(12, 33), (12, 34), (73, 1000), (78, 1000)] σ σ_11 ρ_12 H ∧ va_S (dm L s.heap.size) s.heap H locs ∧ lv_has ls 4 [(3, .int i_10), (2, .int i_9), (0, .ref h0), (1, .int p1)]) (fun (i_9, i_10, σ_11, ρ_12) => (5 - i_10.toInt).toNat) ?_ ⟨0, 0, σ, ρ_6⟩ ⟨(by decide), (by decide), (by decide), (by decide), (by first | decide | omega), hB, hS, lv_sub hl [0, 1, 2, 3] rfl⟩
      rintro ⟨i_9, i_10, σ_11, ρ_12⟩ H locs ls ⟨li_9, ui_9, li_10, ui_10, g_14, hB, hS, hl⟩ ih_13
      refine lv_iload_n hx hb dX12_gifts_42 rfl (lv_at hl 0 rfl) ?_
      refine lv_iconst (v := 5) hx hb dX12_gifts_43 (by decide) ?_
      refine lv_icmp_ge (tgt := 66) hx hb dX12_gifts_44 (by decide) (fun c_15 => ?_) (fun c_15 => ?_)
      · skip
        have uc_15 := i_ge (n := 5) (by decide) c_15
        refine lv_aload_n hx hb dX12_gifts_66 rfl (lv_at hl 2 rfl) ?_
        refine lv_iload_n hx hb dX12_gifts_67 rfl (lv_at hl 1 rfl) ?_
        refine t_cv (va_runV (As := [.int i_9]) (rest := []) ⟨hx, hb, hml, hown, hts⟩ (cy_X12_findsGifts l D cA L T r hG hLA.1 σ_11 ρ_12 hB.2.1 _ h0 mh0 th0 i_9 (by first | omega | decide) (by first | omega | decide)) (cV hts mv_X12_findsGifts mw_8_65 rfl rfl ⟨Nat.le_of_ble_eq_true rfl, Nat.le_of_ble_eq_true rfl⟩) (pV hB.1 hK hN mh0 th0 (show shp cA 12 _ _ _ = .inr (12, Fs12 _ _ _) from rfl) rfl) rfl rfl hl.1 rfl (lv_room (Nat.le_of_ble_eq_true rfl)) dX12_gifts_68 ⟨Nat.le_of_ble_eq_true rfl, Nat.le_of_ble_eq_true rfl⟩) hLA hA hB hS (by decide) (fun σ_16 ρ_17 H locs hB fσ_16 pσ_16 hS => ?_)
        refine lv_iload_n hx hb dX12_gifts_71 rfl (lv_at hl 3 rfl) ?_
        refine lv_iconst (v := (-1)) hx hb dX12_gifts_72 (by decide) ?_
        refine lv_icmp_ne (tgt := 81) hx hb dX12_gifts_73 (by decide) (fun c_19 => ?_) (fun c_19 => ?_)
        · skip
          have uc_19 := i_ne (n := (-1)) (by decide) c_19
          refine lv_iload_n hx hb dX12_gifts_81 rfl (lv_at hl 3 rfl) ?_
          refine lv_bipush (v := 10) hx hb dX12_gifts_82 (by decide) ?_
          refine lv_irem hx hb dX12_gifts_84 (by decide) ?_
          refine lv_topi (fun x_20 ex_20 => ?_)
          have vx_20 := r_10 ex_20 (by omega)
          refine lv_istore_n (lv' := [(3, .int x_20), (2, .int i_9), (0, .ref h0), (1, .int p1)]) hx hb dX12_gifts_85 rfl hl (by decide) rfl (fun ls hl => ?_)
          refine lv_aload_n hx hb dX12_gifts_86 rfl (lv_at hl 2 rfl) ?_
          refine t_gi hx hb hts hown hK hB mh0 th0 fi_12_33 rfl mw_6_9 dX12_gifts_87 (fun x_21 ex_21 lx_21 ux_21 => ?_)
          have cx_21 := congrArg Int32.toInt ex_21
          refine lv_if_eq (tgt := 98) hx hb dX12_gifts_90 (by decide) (fun c_22 => ?_) (fun c_22 => ?_)
          · skip
            have uc_22 := i_eq (n := 0) (by decide) c_22
            refine lv_bipush (v := (-2)) hx hb dX12_gifts_98 (by decide) ?_
            exact W.iret (v := (-2)) hx hb hr (fun t ht hW => ⟨⟨(-2), (σ_16, ρ_17), rfl, ⟨hB.2.1, hB.2.2, trivial⟩, (show TP D cA L T r σ_16 ρ_17 t.heap from by rw [ht]; exact hB.1)⟩, hS.F ht⟩) hS.2.2 dX12_gifts_100
          · skip
            have uc_22 := i_ne (n := 0) (by decide) c_22
            refine lv_iload_n hx hb dX12_gifts_93 rfl (lv_at hl 0 rfl) ?_
            refine lv_iload_n hx hb dX12_gifts_94 rfl (lv_at hl 1 rfl) ?_
            refine lv_icmp_lt (tgt := 101) hx hb dX12_gifts_95 (by decide) (fun c_23 => ?_) (fun c_23 => ?_)
            · skip
              have uc_23 := j_lt c_23
              refine lv_iload_n hx hb dX12_gifts_101 rfl (lv_at hl 3 rfl) ?_
              refine lv_bipush (v := 8) hx hb dX12_gifts_102 (by decide) ?_
              refine lv_icmp_ge (tgt := 116) hx hb dX12_gifts_104 (by decide) (fun c_24 => ?_) (fun c_24 => ?_)
              · skip
                have uc_24 := i_ge (n := 8) (by decide) c_24
                refine lv_aload_n hx hb dX12_gifts_116 rfl (lv_at hl 2 rfl) ?_
                refine lv_iload_n hx hb dX12_gifts_117 rfl (lv_at hl 0 rfl) ?_
                refine lv_aload_n hx hb dX12_gifts_118 rfl (lv_at hl 2 rfl) ?_
                refine t_gi hx hb hts hown hK hB mh0 th0 fi_12_34 rfl mw_6_10 dX12_gifts_119 (fun x_25 ex_25 lx_25 ux_25 => ?_)
                have cx_25 := congrArg Int32.toInt ex_25
                refine lv_iload_n hx hb dX12_gifts_122 rfl (lv_at hl 1 rfl) ?_
                refine lv_iconst (v := 1) hx hb dX12_gifts_123 (by decide) ?_
                refine lv_isub hx hb dX12_gifts_124 ?_
                refine lv_topi (fun x_26 ex_26 => ?_)
                have vx_26 := b_sub (rfl : i_9.toInt = _) (by decide : (1 : Int32).toInt = 1) ex_26 (by omega) (by omega)
                refine lv_iload_n hx hb dX12_gifts_125 rfl (lv_at hl 0 rfl) ?_
                refine lv_isub hx hb dX12_gifts_126 ?_
                refine lv_topi (fun x_27 ex_27 => ?_)
                try have vx_27 := b_sub (rfl : x_26.toInt = _) (rfl : x_20.toInt = _) ex_27 (by omega) (by omega)
                refine lv_ishr hx hb dX12_gifts_127 ?_
                refine lv_topi (fun x_28 ex_28 => ?_)
                refine lv_iconst (v := 1) hx hb dX12_gifts_128 (by decide) ?_
                refine lv_iand hx hb dX12_gifts_129 ?_
                refine lv_topi (fun x_29 ex_29 => ?_)
                obtain ⟨lx_29, ux_29⟩ := and_m 1 (n := 1) (by decide) (by decide) (by decide) ex_29
                refine t_ci (va_runV (As := [.int x_20, .int x_29]) (rest := []) ⟨hx, hb, hml, hown, hts⟩ (cy_X12_sortOf l D cA L T r hG hLA.1 σ_16 ρ_17 hB.2.1 _ h0 mh0 th0 x_20 x_29 (by first | omega | decide) (by first | omega | decide) (by first | omega | decide) (by first | omega | decide)) (cV hts mv_X12_sortOf mw_7_94 rfl rfl ⟨Nat.le_of_ble_eq_true rfl, Nat.le_of_ble_eq_true rfl⟩) (pV hB.1 hK hN mh0 th0 (show shp cA 12 _ _ _ = .inr (12, Fs12 _ _ _) from rfl) rfl) rfl rfl hl.1 rfl (lv_room (Nat.le_of_ble_eq_true rfl)) dX12_gifts_130 ⟨Nat.le_of_ble_eq_true rfl, Nat.le_of_ble_eq_true rfl⟩) hLA hA hB hS (by decide) (fun x_32 σ_30 ρ_31 H locs hB fσ_30 pσ_30 hS => ?_)
                have qσ_30 := FR.nil fσ_30
                subst qσ_30
                obtain ⟨lx_32, ux_32⟩ := pσ_30
                exact W.iret (v := x_32) hx hb hr (fun t ht hW => ⟨⟨x_32, (σ_16, ρ_31), rfl, ⟨hB.2.1, hB.2.2, trivial⟩, (show TP D cA L T r σ_16 ρ_31 t.heap from by rw [ht]; exact hB.1)⟩, hS.F ht⟩) hS.2.2 dX12_gifts_133
              · skip
                have uc_24 := i_nge (n := 8) (by decide) c_24
                refine lv_aload_n hx hb dX12_gifts_107 rfl (lv_at hl 2 rfl) ?_
                refine t_gr hx hb hts hown hK hG hB mh0 th0 fq_12_35 rfl mw_6_11 dX12_gifts_108 (fun b_33 hb_33 mb_33 tb_33 => ?_)
                refine lv_iload_n hx hb dX12_gifts_111 rfl (lv_at hl 0 rfl) ?_
                refine t_ai hx hb hK hB mb_33 tb_33 ai_78 (fun _ => rfl) (i_in (by omega) (by omega)) dX12_gifts_112 (fun x_34 ex_34 lx_34 ux_34 => ?_)
                have cx_34 := congrArg Int32.toInt ex_34
                refine lv_goto (tgt := 133) hx hb dX12_gifts_113 (by decide) ?_
                exact W.iret (v := x_34) hx hb hr (fun t ht hW => ⟨⟨x_34, (σ_16, ρ_17), rfl, ⟨hB.2.1, hB.2.2, trivial⟩, (show TP D cA L T r σ_16 ρ_17 t.heap from by rw [ht]; exact hB.1)⟩, hS.F ht⟩) hS.2.2 dX12_gifts_133
            · skip
              have uc_23 := j_nlt c_23
              refine lv_bipush (v := (-2)) hx hb dX12_gifts_98 (by decide) ?_
              exact W.iret (v := (-2)) hx hb hr (fun t ht hW => ⟨⟨(-2), (σ_16, ρ_17), rfl, ⟨hB.2.1, hB.2.2, trivial⟩, (show TP D cA L T r σ_16 ρ_17 t.heap from by rw [ht]; exact hB.1)⟩, hS.F ht⟩) hS.2.2 dX12_gifts_100
        · skip
          have uc_19 := i_eq (n := (-1)) (by decide) c_19
          refine lv_aload_n hx hb dX12_gifts_76 rfl (lv_at hl 2 rfl) ?_
          refine t_gi hx hb hts hown hK hB mh0 th0 fi_12_33 rfl mw_6_9 dX12_gifts_77 (fun x_35 ex_35 lx_35 ux_35 => ?_)
          have cx_35 := congrArg Int32.toInt ex_35
          exact W.iret (v := x_35) hx hb hr (fun t ht hW => ⟨⟨x_35, (σ_16, ρ_17), rfl, ⟨hB.2.1, hB.2.2, trivial⟩, (show TP D cA L T r σ_16 ρ_17 t.heap from by rw [ht]; exact hB.1)⟩, hS.F ht⟩) hS.2.2 dX12_gifts_80
      · skip
        have uc_15 := i_nge (n := 5) (by decide) c_15
        refine lv_iload_n hx hb dX12_gifts_47 rfl (lv_at hl 1 rfl) ?_
        refine lv_aload_n hx hb dX12_gifts_48 rfl (lv_at hl 2 rfl) ?_
        refine t_gr hx hb hts hown hK hG hB mh0 th0 fq_12_20 rfl mw_5_236 dX12_gifts_49 (fun b_36 hb_36 mb_36 tb_36 => ?_)
        refine lv_sipush (v := 165) hx hb dX12_gifts_52 (by decide) ?_
        refine lv_iload_n hx hb dX12_gifts_55 rfl (lv_at hl 0 rfl) ?_
        refine lv_iadd hx hb dX12_gifts_56 ?_
        refine lv_topi (fun x_37 ex_37 => ?_)
        have vx_37 := b_add (by decide : (165 : Int32).toInt = 165) (rfl : i_10.toInt = _) ex_37 (by omega) (by omega)
        refine t_aj hx hb hK hB mb_36 tb_36 ai_70 (i_in (by omega) (by omega)) dX12_gifts_57 (fun x_38 ex_38 lx_38 ux_38 => ?_)
        rw [show ry 70 x_37.toNatClampNeg = (0, 9) from sbK (by have hn : x_37.toNatClampNeg = x_37.toInt.toNat := rfl; omega) (by have hn : x_37.toNatClampNeg = x_37.toInt.toNat := rfl; omega)] at lx_38 ux_38
        have cx_38 := congrArg Int32.toInt ex_38
        refine lv_iadd hx hb dX12_gifts_58 ?_
        refine lv_topi (fun x_39 ex_39 => ?_)
        have vx_39 := b_add (rfl : i_9.toInt = _) (rfl : x_38.toInt = _) ex_39 (by omega) (by omega)
        refine lv_istore_n (lv' := [(2, .int x_39), (3, .int i_10), (0, .ref h0), (1, .int p1)]) hx hb dX12_gifts_59 rfl hl (by decide) rfl (fun ls hl => ?_)
        obtain ⟨x_40, ex_40⟩ : ∃ y : Int32, y = i_10 + 1 := ⟨_, rfl⟩
        have vx_40 := b_add (rfl : i_10.toInt = _) (by decide : (1 : Int32).toInt = 1) ex_40 (by omega) (by omega)
        refine lv_iinc (v := x_40) (lv' := [(3, .int x_40), (2, .int x_39), (0, .ref h0), (1, .int p1)]) hx hb dX12_gifts_60 hl (k := 1) rfl (by rw [ex_40]; rfl) (by decide) rfl (fun ls hl => ?_)
        refine lv_goto (tgt := 42) hx hb dX12_gifts_63 (by decide) ?_
        exact ih_13 ⟨x_39, x_40, σ_11, ρ_12⟩ _ _ _ ⟨(by omega), (by omega), (by omega), (by omega), (by first | decide | omega), hB, hS, lv_sub hl [0, 1, 2, 3] rfl⟩ (by show (5 - x_40.toInt).toNat < (5 - i_10.toInt).toNat; omega)
    · skip
      have uc_8 := i_eq (n := 0) (by decide) c_8
      refine lv_iload_n hx hb dX12_gifts_21 rfl (lv_at hl 1 rfl) ?_
      refine lv_i2l (v := p1.toInt64) hx hb dX12_gifts_22 rfl ?_
      refine lv_ldc2 (v := 10) hx hb hown (hts _ mw_8_63) dX12_gifts_23 ?_
      refine lv_ldc2 (v := 17) hx hb hown (hts _ mw_8_64) dX12_gifts_26 ?_
      refine t_ci (va_runS (As := [.long p1.toInt64, .long 10, .long 17]) (rest := []) ⟨hx, hb, hml, hown, hts⟩ (cy_X12_in_10_17 l D cA L T r hG hLA.1 σ ρ_6 hB.2.1 _ p1) (cS hts ms_X12_in mw_6_185 rfl rfl ⟨Nat.le_of_ble_eq_true rfl, Nat.le_of_ble_eq_true rfl⟩) (pS hB.1 hK hN) rfl rfl hl.1 rfl (lv_room (Nat.le_of_ble_eq_true rfl)) dX12_gifts_29 ⟨Nat.le_of_ble_eq_true rfl, Nat.le_of_ble_eq_true rfl⟩) hLA hA hB hS (by decide) (fun x_43 σ_41 ρ_42 H locs hB fσ_41 pσ_41 hS => ?_)
      have qσ_41 := FR.nil fσ_41
      subst qσ_41
      obtain ⟨ox_43, ix_43⟩ := pσ_41
      refine lv_if_ne (tgt := 38) hx hb dX12_gifts_32 (by decide) (fun c_44 => ?_) (fun c_44 => ?_)
      · skip
        have uc_44 := i_ne (n := 0) (by decide) c_44
        refine lv_iconst (v := 0) hx hb dX12_gifts_38 (by decide) ?_
        refine lv_istore_n (lv' := [(2, .int 0), (0, .ref h0), (1, .int p1)]) hx hb dX12_gifts_39 rfl hl (by decide) rfl (fun ls hl => ?_)
        refine lv_iconst (v := 0) hx hb dX12_gifts_40 (by decide) ?_
        refine lv_istore_n (lv' := [(3, .int 0), (2, .int 0), (0, .ref h0), (1, .int p1)]) hx hb dX12_gifts_41 rfl hl (by decide) rfl (fun ls hl => ?_)
        refine w_loop (α := Int32 × Int32 × Sg × Lg) (fun (i_45, i_46, σ_47, ρ_48) H locs ls => 0 ≤ i_45.toInt ∧ i_45.toInt ≤ 45 ∧ 0 ≤ i_46.toInt ∧ i_46.toInt ≤ 5 ∧ (i_45.toInt ≤ 9 * i_46.toInt) ∧ TS D cA L T r ry [(12, 33), (12, 34), (73, 1000), (78, 1000)] σ σ_47 ρ_48 H ∧ va_S (dm L s.heap.size) s.heap H locs ∧ lv_has ls 4 [(3, .int i_46), (2, .int i_45), (0, .ref h0), (1, .int p1)]) (fun (i_45, i_46, σ_47, ρ_48) => (5 - i_46.toInt).toNat) ?_ ⟨0, 0, σ, ρ_42⟩ ⟨(by decide), (by decide), (by decide), (by decide), (by first | decide | omega), hB, hS, lv_sub hl [0, 1, 2, 3] rfl⟩
        rintro ⟨i_45, i_46, σ_47, ρ_48⟩ H locs ls ⟨li_45, ui_45, li_46, ui_46, g_50, hB, hS, hl⟩ ih_49
        refine lv_iload_n hx hb dX12_gifts_42 rfl (lv_at hl 0 rfl) ?_
        refine lv_iconst (v := 5) hx hb dX12_gifts_43 (by decide) ?_
        refine lv_icmp_ge (tgt := 66) hx hb dX12_gifts_44 (by decide) (fun c_51 => ?_) (fun c_51 => ?_)
        · skip
          have uc_51 := i_ge (n := 5) (by decide) c_51
          refine lv_aload_n hx hb dX12_gifts_66 rfl (lv_at hl 2 rfl) ?_
          refine lv_iload_n hx hb dX12_gifts_67 rfl (lv_at hl 1 rfl) ?_
          refine t_cv (va_runV (As := [.int i_45]) (rest := []) ⟨hx, hb, hml, hown, hts⟩ (cy_X12_findsGifts l D cA L T r hG hLA.1 σ_47 ρ_48 hB.2.1 _ h0 mh0 th0 i_45 (by first | omega | decide) (by first | omega | decide)) (cV hts mv_X12_findsGifts mw_8_65 rfl rfl ⟨Nat.le_of_ble_eq_true rfl, Nat.le_of_ble_eq_true rfl⟩) (pV hB.1 hK hN mh0 th0 (show shp cA 12 _ _ _ = .inr (12, Fs12 _ _ _) from rfl) rfl) rfl rfl hl.1 rfl (lv_room (Nat.le_of_ble_eq_true rfl)) dX12_gifts_68 ⟨Nat.le_of_ble_eq_true rfl, Nat.le_of_ble_eq_true rfl⟩) hLA hA hB hS (by decide) (fun σ_52 ρ_53 H locs hB fσ_52 pσ_52 hS => ?_)
          refine lv_iload_n hx hb dX12_gifts_71 rfl (lv_at hl 3 rfl) ?_
          refine lv_iconst (v := (-1)) hx hb dX12_gifts_72 (by decide) ?_
          refine lv_icmp_ne (tgt := 81) hx hb dX12_gifts_73 (by decide) (fun c_55 => ?_) (fun c_55 => ?_)
          · skip
            have uc_55 := i_ne (n := (-1)) (by decide) c_55
            refine lv_iload_n hx hb dX12_gifts_81 rfl (lv_at hl 3 rfl) ?_
            refine lv_bipush (v := 10) hx hb dX12_gifts_82 (by decide) ?_
            refine lv_irem hx hb dX12_gifts_84 (by decide) ?_
            refine lv_topi (fun x_56 ex_56 => ?_)
            have vx_56 := r_10 ex_56 (by omega)
            refine lv_istore_n (lv' := [(3, .int x_56), (2, .int i_45), (0, .ref h0), (1, .int p1)]) hx hb dX12_gifts_85 rfl hl (by decide) rfl (fun ls hl => ?_)
            refine lv_aload_n hx hb dX12_gifts_86 rfl (lv_at hl 2 rfl) ?_
            refine t_gi hx hb hts hown hK hB mh0 th0 fi_12_33 rfl mw_6_9 dX12_gifts_87 (fun x_57 ex_57 lx_57 ux_57 => ?_)
            have cx_57 := congrArg Int32.toInt ex_57
            refine lv_if_eq (tgt := 98) hx hb dX12_gifts_90 (by decide) (fun c_58 => ?_) (fun c_58 => ?_)
            · skip
              have uc_58 := i_eq (n := 0) (by decide) c_58
              refine lv_bipush (v := (-2)) hx hb dX12_gifts_98 (by decide) ?_
              exact W.iret (v := (-2)) hx hb hr (fun t ht hW => ⟨⟨(-2), (σ_52, ρ_53), rfl, ⟨hB.2.1, hB.2.2, trivial⟩, (show TP D cA L T r σ_52 ρ_53 t.heap from by rw [ht]; exact hB.1)⟩, hS.F ht⟩) hS.2.2 dX12_gifts_100
            · skip
              have uc_58 := i_ne (n := 0) (by decide) c_58
              refine lv_iload_n hx hb dX12_gifts_93 rfl (lv_at hl 0 rfl) ?_
              refine lv_iload_n hx hb dX12_gifts_94 rfl (lv_at hl 1 rfl) ?_
              refine lv_icmp_lt (tgt := 101) hx hb dX12_gifts_95 (by decide) (fun c_59 => ?_) (fun c_59 => ?_)
              · skip
                have uc_59 := j_lt c_59
                refine lv_iload_n hx hb dX12_gifts_101 rfl (lv_at hl 3 rfl) ?_
                refine lv_bipush (v := 8) hx hb dX12_gifts_102 (by decide) ?_
                refine lv_icmp_ge (tgt := 116) hx hb dX12_gifts_104 (by decide) (fun c_60 => ?_) (fun c_60 => ?_)
                · skip
                  have uc_60 := i_ge (n := 8) (by decide) c_60
                  refine lv_aload_n hx hb dX12_gifts_116 rfl (lv_at hl 2 rfl) ?_
                  refine lv_iload_n hx hb dX12_gifts_117 rfl (lv_at hl 0 rfl) ?_
                  refine lv_aload_n hx hb dX12_gifts_118 rfl (lv_at hl 2 rfl) ?_
                  refine t_gi hx hb hts hown hK hB mh0 th0 fi_12_34 rfl mw_6_10 dX12_gifts_119 (fun x_61 ex_61 lx_61 ux_61 => ?_)
                  have cx_61 := congrArg Int32.toInt ex_61
                  refine lv_iload_n hx hb dX12_gifts_122 rfl (lv_at hl 1 rfl) ?_
                  refine lv_iconst (v := 1) hx hb dX12_gifts_123 (by decide) ?_
                  refine lv_isub hx hb dX12_gifts_124 ?_
                  refine lv_topi (fun x_62 ex_62 => ?_)
                  have vx_62 := b_sub (rfl : i_45.toInt = _) (by decide : (1 : Int32).toInt = 1) ex_62 (by omega) (by omega)
                  refine lv_iload_n hx hb dX12_gifts_125 rfl (lv_at hl 0 rfl) ?_
                  refine lv_isub hx hb dX12_gifts_126 ?_
                  refine lv_topi (fun x_63 ex_63 => ?_)
                  try have vx_63 := b_sub (rfl : x_62.toInt = _) (rfl : x_56.toInt = _) ex_63 (by omega) (by omega)
                  refine lv_ishr hx hb dX12_gifts_127 ?_
                  refine lv_topi (fun x_64 ex_64 => ?_)
                  refine lv_iconst (v := 1) hx hb dX12_gifts_128 (by decide) ?_
                  refine lv_iand hx hb dX12_gifts_129 ?_
                  refine lv_topi (fun x_65 ex_65 => ?_)
                  obtain ⟨lx_65, ux_65⟩ := and_m 1 (n := 1) (by decide) (by decide) (by decide) ex_65
                  refine t_ci (va_runV (As := [.int x_56, .int x_65]) (rest := []) ⟨hx, hb, hml, hown, hts⟩ (cy_X12_sortOf l D cA L T r hG hLA.1 σ_52 ρ_53 hB.2.1 _ h0 mh0 th0 x_56 x_65 (by first | omega | decide) (by first | omega | decide) (by first | omega | decide) (by first | omega | decide)) (cV hts mv_X12_sortOf mw_7_94 rfl rfl ⟨Nat.le_of_ble_eq_true rfl, Nat.le_of_ble_eq_true rfl⟩) (pV hB.1 hK hN mh0 th0 (show shp cA 12 _ _ _ = .inr (12, Fs12 _ _ _) from rfl) rfl) rfl rfl hl.1 rfl (lv_room (Nat.le_of_ble_eq_true rfl)) dX12_gifts_130 ⟨Nat.le_of_ble_eq_true rfl, Nat.le_of_ble_eq_true rfl⟩) hLA hA hB hS (by decide) (fun x_68 σ_66 ρ_67 H locs hB fσ_66 pσ_66 hS => ?_)
                  have qσ_66 := FR.nil fσ_66
                  subst qσ_66
                  obtain ⟨lx_68, ux_68⟩ := pσ_66
                  exact W.iret (v := x_68) hx hb hr (fun t ht hW => ⟨⟨x_68, (σ_52, ρ_67), rfl, ⟨hB.2.1, hB.2.2, trivial⟩, (show TP D cA L T r σ_52 ρ_67 t.heap from by rw [ht]; exact hB.1)⟩, hS.F ht⟩) hS.2.2 dX12_gifts_133
                · skip
                  have uc_60 := i_nge (n := 8) (by decide) c_60
                  refine lv_aload_n hx hb dX12_gifts_107 rfl (lv_at hl 2 rfl) ?_
                  refine t_gr hx hb hts hown hK hG hB mh0 th0 fq_12_35 rfl mw_6_11 dX12_gifts_108 (fun b_69 hb_69 mb_69 tb_69 => ?_)
                  refine lv_iload_n hx hb dX12_gifts_111 rfl (lv_at hl 0 rfl) ?_
                  refine t_ai hx hb hK hB mb_69 tb_69 ai_78 (fun _ => rfl) (i_in (by omega) (by omega)) dX12_gifts_112 (fun x_70 ex_70 lx_70 ux_70 => ?_)
                  have cx_70 := congrArg Int32.toInt ex_70
                  refine lv_goto (tgt := 133) hx hb dX12_gifts_113 (by decide) ?_
                  exact W.iret (v := x_70) hx hb hr (fun t ht hW => ⟨⟨x_70, (σ_52, ρ_53), rfl, ⟨hB.2.1, hB.2.2, trivial⟩, (show TP D cA L T r σ_52 ρ_53 t.heap from by rw [ht]; exact hB.1)⟩, hS.F ht⟩) hS.2.2 dX12_gifts_133
              · skip
                have uc_59 := j_nlt c_59
                refine lv_bipush (v := (-2)) hx hb dX12_gifts_98 (by decide) ?_
                exact W.iret (v := (-2)) hx hb hr (fun t ht hW => ⟨⟨(-2), (σ_52, ρ_53), rfl, ⟨hB.2.1, hB.2.2, trivial⟩, (show TP D cA L T r σ_52 ρ_53 t.heap from by rw [ht]; exact hB.1)⟩, hS.F ht⟩) hS.2.2 dX12_gifts_100
          · skip
            have uc_55 := i_eq (n := (-1)) (by decide) c_55
            refine lv_aload_n hx hb dX12_gifts_76 rfl (lv_at hl 2 rfl) ?_
            refine t_gi hx hb hts hown hK hB mh0 th0 fi_12_33 rfl mw_6_9 dX12_gifts_77 (fun x_71 ex_71 lx_71 ux_71 => ?_)
            have cx_71 := congrArg Int32.toInt ex_71
            exact W.iret (v := x_71) hx hb hr (fun t ht hW => ⟨⟨x_71, (σ_52, ρ_53), rfl, ⟨hB.2.1, hB.2.2, trivial⟩, (show TP D cA L T r σ_52 ρ_53 t.heap from by rw [ht]; exact hB.1)⟩, hS.F ht⟩) hS.2.2 dX12_gifts_80
        · skip
          have uc_51 := i_nge (n := 5) (by decide) c_51
          refine lv_iload_n hx hb dX12_gifts_47 rfl (lv_at hl 1 rfl) ?_
          refine lv_aload_n hx hb dX12_gifts_48 rfl (lv_at hl 2 rfl) ?_
          refine t_gr hx hb hts hown hK hG hB mh0 th0 fq_12_20 rfl mw_5_236 dX12_gifts_49 (fun b_72 hb_72 mb_72 tb_72 => ?_)
          refine lv_sipush (v := 165) hx hb dX12_gifts_52 (by decide) ?_
          refine lv_iload_n hx hb dX12_gifts_55 rfl (lv_at hl 0 rfl) ?_
          refine lv_iadd hx hb dX12_gifts_56 ?_
          refine lv_topi (fun x_73 ex_73 => ?_)
          have vx_73 := b_add (by decide : (165 : Int32).toInt = 165) (rfl : i_46.toInt = _) ex_73 (by omega) (by omega)
          refine t_aj hx hb hK hB mb_72 tb_72 ai_70 (i_in (by omega) (by omega)) dX12_gifts_57 (fun x_74 ex_74 lx_74 ux_74 => ?_)
          rw [show ry 70 x_73.toNatClampNeg = (0, 9) from sbK (by have hn : x_73.toNatClampNeg = x_73.toInt.toNat := rfl; omega) (by have hn : x_73.toNatClampNeg = x_73.toInt.toNat := rfl; omega)] at lx_74 ux_74
          have cx_74 := congrArg Int32.toInt ex_74
          refine lv_iadd hx hb dX12_gifts_58 ?_
          refine lv_topi (fun x_75 ex_75 => ?_)
          have vx_75 := b_add (rfl : i_45.toInt = _) (rfl : x_74.toInt = _) ex_75 (by omega) (by omega)
          refine lv_istore_n (lv' := [(2, .int x_75), (3, .int i_46), (0, .ref h0), (1, .int p1)]) hx hb dX12_gifts_59 rfl hl (by decide) rfl (fun ls hl => ?_)
          obtain ⟨x_76, ex_76⟩ : ∃ y : Int32, y = i_46 + 1 := ⟨_, rfl⟩
          have vx_76 := b_add (rfl : i_46.toInt = _) (by decide : (1 : Int32).toInt = 1) ex_76 (by omega) (by omega)
          refine lv_iinc (v := x_76) (lv' := [(3, .int x_76), (2, .int x_75), (0, .ref h0), (1, .int p1)]) hx hb dX12_gifts_60 hl (k := 1) rfl (by rw [ex_76]; rfl) (by decide) rfl (fun ls hl => ?_)
          refine lv_goto (tgt := 42) hx hb dX12_gifts_63 (by decide) ?_
          exact ih_49 ⟨x_75, x_76, σ_47, ρ_48⟩ _ _ _ ⟨(by omega), (by omega), (by omega), (by omega), (by first | decide | omega), hB, hS, lv_sub hl [0, 1, 2, 3] rfl⟩ (by show (5 - x_76.toInt).toNat < (5 - i_46.toInt).toNat; omega)
      · skip
        have uc_44 := i_eq (n := 0) (by decide) c_44
        refine lv_bipush (v := (-3)) hx hb dX12_gifts_35 (by decide) ?_
        exact W.iret (v := (-3)) hx hb hr (fun t ht hW => ⟨⟨(-3), (σ, ρ_42), rfl, ⟨hB.2.1, hB.2.2, trivial⟩, (show TP D cA L T r σ ρ_42 t.heap from by rw [ht]; exact hB.1)⟩, hS.F ht⟩) hS.2.2 dX12_gifts_37
