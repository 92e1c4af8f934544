set_option maxHeartbeats 4000000 in
set_option maxRecDepth 100000 in
theorem cy_X6_moveAll (l : Launch) (D : va_G) (cA : Nat → ClassId) (L : List Nat) (T : Nat → Nat) (r : Rg) (hG : GR L T r) (hL : L.Nodup) (σ : Sg) (ρ : Lg) (hW : WT L ry T σ) (sz : Nat) (h0 : Nat) (mh0 : h0 ∈ L) (th0 : T h0 = 6) (h1 : Nat) (mh1 : h1 ∈ L) (th1 : T h1 = 3) : Met l yX6_moveAll (.code yX6_moveAll cX6_moveAll 3 none :: wsA) ({ frames := 2, cells := 0, slots := 0, locals := 65 }) (PR D cA L T r σ ρ sz [.ref h0, .ref h1]) (QV D cA L T r ry [(6, 3), (6, 5), (125, 1000), (127, 1000), (129, 1000), (130, 1000)] σ sz (fun σ1 => True)) 0 0 (dm L sz) := by
  refine Met.ofW (cc := cX6_moveAll) (maxL := 3) (ret := none) (by decide) rfl ?_
  intro p e s m args below meth c s₁ B hml hv
  obtain ⟨rfl, hsz, hP, hK, hN⟩ := hv
  have hx := B.exec
  have hb := B.bytes
  have hr := B.returns
  have hts : ∀ w ∈ wsA, w.before _ s = true := fun w h => atoms_spec (ws := .code yX6_moveAll cX6_moveAll 3 none :: wsA) B.pre w (List.mem_cons_of_mem _ h)
  have hown : s.vm.findClass RX6 = some m.cls := findClass_of_methodNamed B.named
  subst hsz
  have hLA : LA (dm L s.heap.size) L := ⟨hL, fun a h => Or.inl h⟩
  have hA : ∀ q : Nat, s.heap.size ≤ q → dm L s.heap.size q := fun q h => Or.inr h
  have hS : va_S (dm L s.heap.size) s.heap s.heap [] := va_S.rf
  have hB : TS D cA L T r ry [(6, 3), (6, 5), (125, 1000), (127, 1000), (129, 1000), (130, 1000)] σ σ ρ s.heap := ⟨hP, hW, FR.rf⟩
  have hl := lv_entry ([.ref h0, .ref h1]) (n := 3) (Nat.le_of_ble_eq_true rfl)
  rw [lg_entry_eq]
  generalize (lg_sl ([.ref h0, .ref h1]) ++ List.replicate (3 - (lg_sl ([.ref h0, .ref h1])).length) Slot.unset).toArray = ls at hl ⊢
  have hl : lv_has ls 3 [(0, .ref h0), (1, .ref h1)] := hl
  refine lv_iconst (v := 0) hx hb dX6_moveAll_0 (by decide) ?_
  refine lv_istore_n (lv' := [(2, .int 0), (0, .ref h0), (1, .ref h1)]) hx hb dX6_moveAll_1 rfl hl (by decide) rfl (fun ls hl => ?_)
  refine w_loop (α := Int32 × Sg × Lg) (fun (i_1, σ_2, ρ_3) H locs ls => 0 ≤ i_1.toInt ∧ i_1.toInt ≤ 4 ∧ TS D cA L T r ry [(6, 3), (6, 5), (125, 1000), (127, 1000), (129, 1000), (130, 1000)] σ σ_2 ρ_3 H ∧ va_S (dm L s.heap.size) s.heap H locs ∧ lv_has ls 3 [(2, .int i_1), (0, .ref h0), (1, .ref h1)]) (fun (i_1, σ_2, ρ_3) => (4 - i_1.toInt).toNat) ?_ ⟨0, σ, ρ⟩ ⟨(by decide), (by decide), hB, hS, lv_sub hl [0, 1, 2] rfl⟩
  rintro ⟨i_1, σ_2, ρ_3⟩ H locs ls ⟨li_1, ui_1, hB, hS, hl⟩ ih_4
  refine lv_iload_n hx hb dX6_moveAll_2 rfl (lv_at hl 0 rfl) ?_
  refine lv_aload_n hx hb dX6_moveAll_3 rfl (lv_at hl 2 rfl) ?_
  refine t_gi hx hb hts hown hK hB mh1 th1 fi_3_10 rfl mw_1_186 dX6_moveAll_4 (fun x_5 ex_5 lx_5 ux_5 => ?_)
  refine lv_icmp_ge (tgt := 104) hx hb dX6_moveAll_7 (by decide) (fun c_6 => ?_) (fun c_6 => ?_)
  · skip
    have uc_6 := j_le c_6
    exact W.vret hx hb hr (fun t ht hW => ⟨⟨(σ_2, ρ_3), rfl, ⟨hB.2.1, hB.2.2, trivial⟩, (show TP D cA L T r σ_2 ρ_3 t.heap from by rw [ht]; exact hB.1)⟩, hS.F ht⟩) hS.2.2 dX6_moveAll_104
  · skip
    have uc_6 := j_nle c_6
    refine lv_aload_n hx hb dX6_moveAll_10 rfl (lv_at hl 1 rfl) ?_
    refine lv_aload_n hx hb dX6_moveAll_11 rfl (lv_at hl 1 rfl) ?_
    refine t_gi hx hb hts hown hK hB mh0 th0 fi_6_3 rfl mw_2_70 dX6_moveAll_12 (fun x_7 ex_7 lx_7 ux_7 => ?_)
    refine lv_ldc (v := 1103515245) hx hb hown (hts _ mw_5_178) dX6_moveAll_15 ?_
    refine lv_imul hx hb dX6_moveAll_17 ?_
    refine lv_topi (fun x_8 ex_8 => ?_)
    refine lv_sipush (v := 12345) hx hb dX6_moveAll_18 (by decide) ?_
    refine lv_iadd hx hb dX6_moveAll_21 ?_
    refine lv_topi (fun x_9 ex_9 => ?_)
    refine lv_ldc (v := 2147483647) hx hb hown (hts _ mw_5_179) dX6_moveAll_22 ?_
    refine lv_iand hx hb dX6_moveAll_24 ?_
    refine lv_topi (fun x_10 ex_10 => ?_)
    refine t_pi hx hb hts hown hK hLA hB hS mh0 th0 fi_6_3 rfl rfl rfl (i_lo _) (i_hi _) (Or.inl (by decide)) mw_2_70 dX6_moveAll_25 (fun H locs σ_11 eσ_11 hB hS => ?_)
    have k_12 : σ_11 h0 3 = x_10 := by rw [eσ_11]; exact up2_same _ _ _ _
    refine lv_aload_n hx hb dX6_moveAll_28 rfl (lv_at hl 1 rfl) ?_
    refine t_gv hx hb hts hown hK hB mh0 th0 fi_6_3 k_12 mw_2_70 dX6_moveAll_29 ?_
    refine lv_ldc (v := 65536) hx hb hown (hts _ mw_5_180) dX6_moveAll_32 ?_
    refine lv_idiv hx hb dX6_moveAll_34 (by decide) ?_
    refine lv_topi (fun x_13 ex_13 => ?_)
    refine lv_iconst (v := 4) hx hb dX6_moveAll_35 (by decide) ?_
    refine lv_irem hx hb dX6_moveAll_36 (by decide) ?_
    refine lv_topi (fun x_14 ex_14 => ?_)
    refine lv_if_ne (tgt := 67) hx hb dX6_moveAll_37 (by decide) (fun c_15 => ?_) (fun c_15 => ?_)
    · skip
      have uc_15 := i_ne (n := 0) (by decide) c_15
      refine lv_aload_n hx hb dX6_moveAll_67 rfl (lv_at hl 1 rfl) ?_
      refine t_gr hx hb hts hown hK hG hB mh0 th0 fq_6_2 rfl mw_2_69 dX6_moveAll_68 (fun b_16 hb_16 mb_16 tb_16 => ?_)
      refine lv_aload_n hx hb dX6_moveAll_71 rfl (lv_at hl 2 rfl) ?_
      refine lv_iload_n hx hb dX6_moveAll_72 rfl (lv_at hl 0 rfl) ?_
      obtain ⟨b_17, hb_17, mb_17, tb_17⟩ := hG b_16 mb_16 0 _ (by rw [tb_16]; rfl)
      refine t_ci (va_runV (As := [.ref h1, .int i_1]) (rest := []) ⟨hx, hb, hml, hown, hts⟩ (cy_X8_canGoUp_103 l D cA L T r hG hLA.1 σ_11 ρ_3 hB.2.1 _ b_16 mb_16 tb_16 h1 mh1 th1 i_1 b_17 hb_17 mb_17 tb_17 (by first | omega | decide) (by first | omega | decide)) (cV hts mv_X8_canGoUp mw_5_182 rfl rfl ⟨Nat.le_of_ble_eq_true rfl, Nat.le_of_ble_eq_true rfl⟩) (pV hB.1 hK hN mb_16 tb_16 (show shp cA 103 _ _ _ = .inr (8, Fs8 _ _ _) from rfl) rfl) rfl rfl hl.1 rfl (lv_room (Nat.le_of_ble_eq_true rfl)) dX6_moveAll_73 ⟨Nat.le_of_ble_eq_true rfl, Nat.le_of_ble_eq_true rfl⟩) hLA hA hB hS (by decide) (fun x_20 σ_18 ρ_19 H locs hB fσ_18 pσ_18 hS => ?_)
      have qσ_18 := FR.nil fσ_18
      subst qσ_18
      obtain ⟨ox_20, ix_20⟩ := pσ_18
      refine lv_if_eq (tgt := 98) hx hb dX6_moveAll_76 (by decide) (fun c_21 => ?_) (fun c_21 => ?_)
      · skip
        have uc_21 := i_eq (n := 0) (by decide) c_21
        obtain ⟨x_22, ex_22⟩ : ∃ y : Int32, y = i_1 + 1 := ⟨_, rfl⟩
        have vx_22 := b_add (rfl : i_1.toInt = _) (by decide : (1 : Int32).toInt = 1) ex_22 (by omega) (by omega)
        refine lv_iinc (v := x_22) (lv' := [(2, .int x_22), (0, .ref h0), (1, .ref h1)]) hx hb dX6_moveAll_98 hl (k := 0) rfl (by rw [ex_22]; rfl) (by decide) rfl (fun ls hl => ?_)
        refine lv_goto (tgt := 2) hx hb dX6_moveAll_101 (by decide) ?_
        exact ih_4 ⟨x_22, σ_11, ρ_19⟩ _ _ _ ⟨(by omega), (by omega), hB, hS, lv_sub hl [0, 1, 2] rfl⟩ (by show (4 - x_22.toInt).toNat < (4 - i_1.toInt).toNat; omega)
      · skip
        have uc_21 := i_ne (n := 0) (by decide) c_21
        refine lv_aload_n hx hb dX6_moveAll_79 rfl (lv_at hl 1 rfl) ?_
        refine t_gk hx hb hts hown hK hB mh0 th0 fq_6_2 hb_16 mw_2_69 dX6_moveAll_80 ?_
        refine lv_aload_n hx hb dX6_moveAll_83 rfl (lv_at hl 2 rfl) ?_
        refine lv_iload_n hx hb dX6_moveAll_84 rfl (lv_at hl 0 rfl) ?_
        have k_23a := congrFun eσ_11 b_17
        rw [up2_row _ _ (tg_ne tb_17 th0 (by decide))] at k_23a
        refine t_cv (va_runV (As := [.ref h1, .int i_1]) (rest := []) ⟨hx, hb, hml, hown, hts⟩ (cy_X8_goUp_103 l D cA L T r hG hLA.1 σ_11 ρ_19 hB.2.1 _ b_16 mb_16 tb_16 h1 mh1 th1 i_1 b_17 hb_17 mb_17 tb_17 (by first | omega | decide) (by first | omega | decide) (by rw [k_23a]; omega)) (cV hts mv_X8_goUp mw_5_183 rfl rfl ⟨Nat.le_of_ble_eq_true rfl, Nat.le_of_ble_eq_true rfl⟩) (pV hB.1 hK hN mb_16 tb_16 (show shp cA 103 _ _ _ = .inr (8, Fs8 _ _ _) from rfl) rfl) rfl rfl hl.1 rfl (lv_room (Nat.le_of_ble_eq_true rfl)) dX6_moveAll_85 ⟨Nat.le_of_ble_eq_true rfl, Nat.le_of_ble_eq_true rfl⟩) hLA hA hB hS (by decide) (fun σ_24 ρ_25 H locs hB fσ_24 pσ_24 hS => ?_)
        refine lv_aload_n hx hb dX6_moveAll_88 rfl (lv_at hl 1 rfl) ?_
        refine lv_dup hx hb dX6_moveAll_89 rfl ?_
        refine t_gi hx hb hts hown hK hB mh0 th0 fi_6_5 rfl mw_2_73 dX6_moveAll_90 (fun x_27 ex_27 lx_27 ux_27 => ?_)
        refine lv_iconst (v := 1) hx hb dX6_moveAll_93 (by decide) ?_
        refine lv_iadd hx hb dX6_moveAll_94 ?_
        refine lv_topi (fun x_28 ex_28 => ?_)
        refine t_pi hx hb hts hown hK hLA hB hS mh0 th0 fi_6_5 rfl rfl rfl (i_lo _) (i_hi _) (Or.inl (by decide)) mw_2_73 dX6_moveAll_95 (fun H locs σ_29 eσ_29 hB hS => ?_)
        have k_30 : σ_29 h0 5 = x_28 := by rw [eσ_29]; exact up2_same _ _ _ _
        obtain ⟨x_31, ex_31⟩ : ∃ y : Int32, y = i_1 + 1 := ⟨_, rfl⟩
        have vx_31 := b_add (rfl : i_1.toInt = _) (by decide : (1 : Int32).toInt = 1) ex_31 (by omega) (by omega)
        refine lv_iinc (v := x_31) (lv' := [(2, .int x_31), (0, .ref h0), (1, .ref h1)]) hx hb dX6_moveAll_98 hl (k := 0) rfl (by rw [ex_31]; rfl) (by decide) rfl (fun ls hl => ?_)
        refine lv_goto (tgt := 2) hx hb dX6_moveAll_101 (by decide) ?_
        exact ih_4 ⟨x_31, σ_29, ρ_25⟩ _ _ _ ⟨(by omega), (by omega), hB, hS, lv_sub hl [0, 1, 2] rfl⟩ (by show (4 - x_31.toInt).toNat < (4 - i_1.toInt).toNat; omega)
    · skip
      have uc_15 := i_eq (n := 0) (by decide) c_15
      refine lv_aload_n hx hb dX6_moveAll_40 rfl (lv_at hl 1 rfl) ?_
      refine t_gr hx hb hts hown hK hG hB mh0 th0 fq_6_2 rfl mw_2_69 dX6_moveAll_41 (fun b_32 hb_32 mb_32 tb_32 => ?_)
      refine t_gr hx hb hts hown hK hG hB mb_32 tb_32 fq_103_0 rfl mw_1_83 dX6_moveAll_44 (fun b_33 hb_33 mb_33 tb_33 => ?_)
      refine lv_iload_n hx hb dX6_moveAll_47 rfl (lv_at hl 0 rfl) ?_
      refine lv_iconst (v := 0) hx hb dX6_moveAll_48 (by decide) ?_
      refine lv_aload_n hx hb dX6_moveAll_49 rfl (lv_at hl 1 rfl) ?_
      refine t_gk hx hb hts hown hK hB mh0 th0 fq_6_2 hb_32 mw_2_69 dX6_moveAll_50 ?_
      refine t_gk hx hb hts hown hK hB mb_32 tb_32 fq_103_0 hb_33 mw_1_83 dX6_moveAll_53 ?_
      refine lv_iload_n hx hb dX6_moveAll_56 rfl (lv_at hl 0 rfl) ?_
      refine t_ai hx hb hK hB mb_33 tb_33 ai_125 (fun _ => rfl) (i_in (by omega) (by omega)) dX6_moveAll_57 (fun x_34 ex_34 lx_34 ux_34 => ?_)
      refine lv_iconst (v := 1) hx hb dX6_moveAll_58 (by decide) ?_
      refine lv_isub hx hb dX6_moveAll_59 ?_
      refine lv_topi (fun x_35 ex_35 => ?_)
      have vx_35 := b_sub (rfl : x_34.toInt = _) (by decide : (1 : Int32).toInt = 1) ex_35 (by omega) (by omega)
      refine va_mmax hx hb (hml.trans hl.1.symm) hown (hts _ mw_5_181) (hts _ mw_3_120) (hts _ mw_1_18) (hts _ mw_3_121) (Nat.le_of_ble_eq_true rfl) (Nat.le_of_ble_eq_true rfl) (Nat.zero_le _) (Nat.zero_le _) dX6_moveAll_60 ?_
      refine lv_topi (fun x_36 ex_36 => ?_)
      obtain ⟨lx_36, mx_36, ux_36⟩ := m_max (by decide : (0 : Int32).toInt = 0) (rfl : x_35.toInt = _) ex_36
      refine t_si hx hb hK hLA hB hS mb_33 tb_33 ai_125 (i_in (by omega) (by omega)) (by show 0 ≤ _; omega) (by show _ ≤ 8; omega) (Or.inr (by decide)) dX6_moveAll_63 (fun H locs σ_37 eσ_37 hB hS => ?_)
      have k_38 : σ_37 b_33 i_1.toNatClampNeg = x_36 := by rw [eσ_37]; exact up2_same _ _ _ _
      refine lv_goto (tgt := 98) hx hb dX6_moveAll_64 (by decide) ?_
      obtain ⟨x_39, ex_39⟩ : ∃ y : Int32, y = i_1 + 1 := ⟨_, rfl⟩
      have vx_39 := b_add (rfl : i_1.toInt = _) (by decide : (1 : Int32).toInt = 1) ex_39 (by omega) (by omega)
      refine lv_iinc (v := x_39) (lv' := [(2, .int x_39), (0, .ref h0), (1, .ref h1)]) hx hb dX6_moveAll_98 hl (k := 0) rfl (by rw [ex_39]; rfl) (by decide) rfl (fun ls hl => ?_)
      refine lv_goto (tgt := 2) hx hb dX6_moveAll_101 (by decide) ?_
      exact ih_4 ⟨x_39, σ_37, ρ_3⟩ _ _ _ ⟨(by omega), (by omega), hB, hS, lv_sub hl [0, 1, 2] rfl⟩ (by show (4 - x_39.toInt).toNat < (4 - i_1.toInt).toNat; omega)
