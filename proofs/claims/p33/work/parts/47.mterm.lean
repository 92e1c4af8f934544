theorem mw_6_226 : (.instanceMethod yX12_value : Cond) ∈ wsA := wsA_t (List.mem_append_right _ (List.mem_append_right _ (List.mem_append_right _ (List.mem_append_right _ (List.mem_append_right _ (List.mem_append_left _ (List.mem_of_getElem? (l := tables_1_6) (i := 226) rfl))))))) rfl
theorem mp_5_1 : (.selects RX12 yX12_value yX12_value : Cond) ∈ wsA := wsA_p (q := (yX12_value, 44)) (List.mem_append_right _ (List.mem_append_right _ (List.mem_append_right _ (List.mem_append_right _ (List.mem_append_left _ (List.mem_of_getElem? (l := lw_privs_5) (i := 1) rfl))))))
theorem mw_6_227 : (.code yX12_value cX12_value 3 (some .boolean) : Cond) ∈ wsA := wsA_t (List.mem_append_right _ (List.mem_append_right _ (List.mem_append_right _ (List.mem_append_right _ (List.mem_append_right _ (List.mem_append_left _ (List.mem_of_getElem? (l := tables_1_6) (i := 227) rfl))))))) rfl
theorem mw_6_224 : (.methodLink RX12 184 yX12_value : Cond) ∈ wsA := wsA_t (List.mem_append_right _ (List.mem_append_right _ (List.mem_append_right _ (List.mem_append_right _ (List.mem_append_right _ (List.mem_append_left _ (List.mem_of_getElem? (l := tables_1_6) (i := 224) rfl))))))) rfl
theorem dX12_term_0 : decode cX12_term 0 = .ok (.aload_n 0, 1) := by decide +kernel
theorem dX12_term_1 : decode cX12_term 1 = .ok (.invokevirtual 184, 3) := by decide +kernel
theorem dX12_term_4 : decode cX12_term 4 = .ok (.ifCond .ne 5, 3) := by decide +kernel
theorem dX12_term_9 : decode cX12_term 9 = .ok (.aload_n 0, 1) := by decide +kernel
theorem dX12_term_10 : decode cX12_term 10 = .ok (.invokevirtual 105, 3) := by decide +kernel
theorem dX12_term_13 : decode cX12_term 13 = .ok (.bipush 42, 2) := by decide +kernel
theorem dX12_term_15 : decode cX12_term 15 = .ok (.if_icmp .eq 21, 3) := by decide +kernel
theorem dX12_term_36 : decode cX12_term 36 = .ok (.aload_n 0, 1) := by decide +kernel
theorem dX12_term_37 : decode cX12_term 37 = .ok (.getfield 7, 3) := by decide +kernel
theorem dX12_term_40 : decode cX12_term 40 = .ok (.aload_n 0, 1) := by decide +kernel
theorem dX12_term_41 : decode cX12_term 41 = .ok (.getfield 102, 3) := by decide +kernel
theorem dX12_term_44 : decode cX12_term 44 = .ok (.baload, 1) := by decide +kernel
theorem dX12_term_45 : decode cX12_term 45 = .ok (.bipush 42, 2) := by decide +kernel
theorem dX12_term_47 : decode cX12_term 47 = .ok (.if_icmp .ne 7, 3) := by decide +kernel
theorem dX12_term_54 : decode cX12_term 54 = .ok (.aload_n 0, 1) := by decide +kernel
theorem dX12_term_55 : decode cX12_term 55 = .ok (.getfield 7, 3) := by decide +kernel
theorem dX12_term_58 : decode cX12_term 58 = .ok (.aload_n 0, 1) := by decide +kernel
theorem dX12_term_59 : decode cX12_term 59 = .ok (.getfield 102, 3) := by decide +kernel
theorem dX12_term_62 : decode cX12_term 62 = .ok (.baload, 1) := by decide +kernel
theorem dX12_term_63 : decode cX12_term 63 = .ok (.bipush 47, 2) := by decide +kernel
theorem dX12_term_65 : decode cX12_term 65 = .ok (.if_icmp .ne 7, 3) := by decide +kernel
theorem dX12_term_72 : decode cX12_term 72 = .ok (.bipush 14, 2) := by decide +kernel
theorem dX12_term_74 : decode cX12_term 74 = .ok (.istore_n 1, 1) := by decide +kernel
theorem dX12_term_75 : decode cX12_term 75 = .ok (.aload_n 0, 1) := by decide +kernel
theorem dX12_term_76 : decode cX12_term 76 = .ok (.dup, 1) := by decide +kernel
theorem dX12_term_77 : decode cX12_term 77 = .ok (.getfield 102, 3) := by decide +kernel
theorem dX12_term_80 : decode cX12_term 80 = .ok (.iconst 1, 1) := by decide +kernel
theorem dX12_term_81 : decode cX12_term 81 = .ok (.iadd, 1) := by decide +kernel
theorem dX12_term_82 : decode cX12_term 82 = .ok (.putfield 102, 3) := by decide +kernel
theorem dX12_term_85 : decode cX12_term 85 = .ok (.aload_n 0, 1) := by decide +kernel
theorem dX12_term_86 : decode cX12_term 86 = .ok (.invokevirtual 184, 3) := by decide +kernel
theorem dX12_term_89 : decode cX12_term 89 = .ok (.ifCond .ne 5, 3) := by decide +kernel
theorem dX12_term_94 : decode cX12_term 94 = .ok (.aload_n 0, 1) := by decide +kernel
theorem dX12_term_95 : decode cX12_term 95 = .ok (.iload_n 1, 1) := by decide +kernel
theorem dX12_term_96 : decode cX12_term 96 = .ok (.iconst 0, 1) := by decide +kernel
theorem dX12_term_97 : decode cX12_term 97 = .ok (.invokevirtual 170, 3) := by decide +kernel
theorem dX12_term_100 : decode cX12_term 100 = .ok (.goto (-91), 3) := by decide +kernel
theorem dX12_term_92 : decode cX12_term 92 = .ok (.iconst 0, 1) := by decide +kernel
theorem dX12_term_93 : decode cX12_term 93 = .ok (.ireturn, 1) := by decide +kernel
theorem dX12_term_68 : decode cX12_term 68 = .ok (.iconst 5, 1) := by decide +kernel
theorem dX12_term_69 : decode cX12_term 69 = .ok (.goto 5, 3) := by decide +kernel
theorem dX12_term_50 : decode cX12_term 50 = .ok (.iconst 4, 1) := by decide +kernel
theorem dX12_term_51 : decode cX12_term 51 = .ok (.goto 23, 3) := by decide +kernel
theorem dX12_term_18 : decode cX12_term 18 = .ok (.aload_n 0, 1) := by decide +kernel
theorem dX12_term_19 : decode cX12_term 19 = .ok (.invokevirtual 105, 3) := by decide +kernel
theorem dX12_term_22 : decode cX12_term 22 = .ok (.bipush 47, 2) := by decide +kernel
theorem dX12_term_24 : decode cX12_term 24 = .ok (.if_icmp .eq 12, 3) := by decide +kernel
theorem dX12_term_27 : decode cX12_term 27 = .ok (.aload_n 0, 1) := by decide +kernel
theorem dX12_term_28 : decode cX12_term 28 = .ok (.invokevirtual 105, 3) := by decide +kernel
theorem dX12_term_31 : decode cX12_term 31 = .ok (.bipush 37, 2) := by decide +kernel
theorem dX12_term_33 : decode cX12_term 33 = .ok (.if_icmp .ne 70, 3) := by decide +kernel
theorem dX12_term_103 : decode cX12_term 103 = .ok (.iconst 1, 1) := by decide +kernel
theorem dX12_term_104 : decode cX12_term 104 = .ok (.ireturn, 1) := by decide +kernel
theorem dX12_term_7 : decode cX12_term 7 = .ok (.iconst 0, 1) := by decide +kernel
theorem dX12_term_8 : decode cX12_term 8 = .ok (.ireturn, 1) := by decide +kernel
theorem mv_X12_value : MV RX12 yX12_value cX12_value 3 (some .boolean) 0 := ⟨mw_6_226, mp_5_1, mw_1_13, mw_6_227, ⟨rfl, by decide, by decide, by decide +kernel⟩⟩
set_option maxHeartbeats 4000000 in
set_option maxRecDepth 100000 in
theorem cz_X12_term (l : Launch) (D : va_G) (cA : Nat → ClassId) (L : List Nat) (T : Nat → Nat) (r : Rg) (hG : GR L T r) (hL : L.Nodup) (σ : Sg) (ρ : Lg) (hW : WT L ry T σ) (sz : Nat) (h0 : Nat) (mh0 : h0 ∈ L) (th0 : T h0 = 12) (bt : Nat) (hbt : r h0 0 = some bt) (mbt : bt ∈ L) (tbt : T bt = 61) (bg : Nat) (hbg : r h0 3 = some bg) (mbg : bg ∈ L) (tbg : T bg = 62) (bl : Nat) (hbl : r h0 4 = some bl) (mbl : bl ∈ L) (tbl : T bl = 63) (tx : Int32) (k0 : σ h0 11 = tx) (w0 : 0 ≤ tx.toInt) (w1 : tx.toInt ≤ 5) (w2 : (σ bl tx.toNatClampNeg).toInt ≤ (σ h0 8).toInt) : Met l yX12_term (.code yX12_term cX12_term 2 (some .boolean) :: wsA) ({ frames := 4, cells := 0, slots := 0, locals := 88 }) (PR D cA L T r σ ρ sz [.ref h0]) (QI D cA L T r ry [(12, 8), (12, 9), (12, 10), (12, 12), (62, 1000), (63, 1000)] σ sz (fun x σ1 => (0 ≤ x.toInt ∧ x.toInt ≤ 1) ∧ ((σ h0 8).toInt ≤ (σ1 h0 8).toInt) ∧ (EX (σ bg) (σ bl) (σ1 bg) (σ1 bl) tx) ∧ (x.toInt = 1 → RLx σ σ1 h0 bg bl tx 1 0))) 0 0 (dm L sz) := by
  refine Met.ofW (cc := cX12_term) (maxL := 2) (ret := (some .boolean)) (by decide) rfl ?_
  intro p e s m args below meth c s₁ B hml hv
  obtain ⟨rfl, hsz, hP, hK, hN⟩ := hv
  have hx := B.exec
  have hb := B.bytes
  have hr := B.returns
  have hts : ∀ w ∈ wsA, w.before _ s = true := fun w h => atoms_spec (ws := .code yX12_term cX12_term 2 (some .boolean) :: wsA) B.pre w (List.mem_cons_of_mem _ h)
  have hown : s.vm.findClass RX12 = some m.cls := findClass_of_methodNamed B.named
  subst hsz
  have hLA : LA (dm L s.heap.size) L := ⟨hL, fun a h => Or.inl h⟩
  have hA : ∀ q : Nat, s.heap.size ≤ q → dm L s.heap.size q := fun q h => Or.inr h
  have hS : va_S (dm L s.heap.size) s.heap s.heap [] := va_S.rf
  have hB : TS D cA L T r ry [(12, 8), (12, 9), (12, 10), (12, 12), (62, 1000), (63, 1000)] σ σ ρ s.heap := ⟨hP, hW, FR.rf⟩
  have hl := lv_entry ([.ref h0]) (n := 2) (Nat.le_of_ble_eq_true rfl)
  rw [lg_entry_eq]
  generalize (lg_sl ([.ref h0]) ++ List.replicate (2 - (lg_sl ([.ref h0])).length) Slot.unset).toArray = ls at hl ⊢
  have hl : lv_has ls 2 [(0, .ref h0)] := hl
  have w_1 : 0 ≤ (σ h0 8).toInt ∧ (σ h0 8).toInt ≤ 400 := by have z := hB.2.1 h0 mh0 8; rw [th0] at z; exact z
  have w_2 : 0 ≤ (σ h0 1).toInt ∧ (σ h0 1).toInt ≤ 400 := by have z := hB.2.1 h0 mh0 1; rw [th0] at z; exact z
  have w_3 : 0 ≤ (σ h0 12).toInt ∧ (σ h0 12).toInt ≤ 60 := by have z := hB.2.1 h0 mh0 12; rw [th0] at z; exact z
  have w_4 : 0 ≤ (σ bl tx.toNatClampNeg).toInt ∧ (σ bl tx.toNatClampNeg).toInt ≤ 400 := by have z := hB.2.1 bl mbl tx.toNatClampNeg; rw [tbl] at z; exact z
  have R0 : RLx σ σ h0 bg bl tx 0 0 := RLx.rf
  refine lv_aload_n hx hb dX12_term_0 rfl (lv_at hl 0 rfl) ?_
  refine t_ci (va_runV (As := []) (rest := []) ⟨hx, hb, hml, hown, hts⟩ (cz_X12_value l D cA L T r hG hLA.1 σ ρ hB.2.1 _ h0 mh0 th0 bt hbt mbt tbt bg hbg mbg tbg bl hbl mbl tbl tx k0 (by first | omega | decide) (by first | omega | decide) (by omega)) (cV hts mv_X12_value mw_6_224 rfl rfl ⟨Nat.le_of_ble_eq_true rfl, Nat.le_of_ble_eq_true rfl⟩) (pV hB.1 hK hN mh0 th0 (show shp cA 12 _ _ _ = .inr (12, Fs12 _ _ _) from rfl) rfl) rfl rfl hl.1 rfl (lv_room (Nat.le_of_ble_eq_true rfl)) dX12_term_1 ⟨Nat.le_of_ble_eq_true rfl, Nat.le_of_ble_eq_true rfl⟩) hLA hA hB hS (by decide) (fun x_7 σ_5 ρ_6 H locs hB fσ_5 pσ_5 hS => ?_)
  obtain ⟨g_8, g_9, g_10, g_11⟩ := pσ_5
  have w_12 : 0 ≤ (σ_5 bl tx.toNatClampNeg).toInt ∧ (σ_5 bl tx.toNatClampNeg).toInt ≤ 400 := by have z := hB.2.1 bl mbl tx.toNatClampNeg; rw [tbl] at z; exact z
  have w_13 : 0 ≤ (σ_5 h0 8).toInt ∧ (σ_5 h0 8).toInt ≤ 400 := by have z := hB.2.1 h0 mh0 8; rw [th0] at z; exact z
  have w_14 : 0 ≤ (σ_5 h0 12).toInt ∧ (σ_5 h0 12).toInt ≤ 60 := by have z := hB.2.1 h0 mh0 12; rw [th0] at z; exact z
  have ex_15 := EX.tr EX.rf g_10
  obtain ⟨lx_7, ux_7⟩ := g_8
  have k_16 : σ_5 h0 1 = (σ h0 1) := (FR.at fσ_5 th0 (by decide)).trans rfl
  have cq_17 : (σ_5 h0 1).toInt = (σ h0 1).toInt := congrArg Int32.toInt k_16
  refine lv_if_ne (tgt := 9) hx hb dX12_term_4 (by decide) (fun c_18 => ?_) (fun c_18 => ?_)
  · skip
    have uc_18 := i_ne (n := 0) (by decide) c_18
    have k_19 : σ_5 h0 11 = tx := (FR.at fσ_5 th0 (by decide)).trans k0
    have R_25 : RLx σ σ_5 h0 bg bl tx 1 0 := RLx.tr R0 (g_11 (by omega))
    have R_25n := R_25.2.1
    refine w_loop (α := Sg × Lg) (fun (σ_20, ρ_21) H locs ls => σ_20 h0 11 = tx ∧ σ_20 h0 1 = (σ h0 1) ∧ (RLx σ σ_20 h0 bg bl tx 1 0) ∧ ((σ h0 8).toInt ≤ (σ_20 h0 8).toInt) ∧ TS D cA L T r ry [(12, 8), (12, 9), (12, 10), (12, 12), (62, 1000), (63, 1000)] σ σ_20 ρ_21 H ∧ va_S (dm L s.heap.size) s.heap H locs ∧ lv_has ls 2 [(0, .ref h0)]) (fun (σ_20, ρ_21) => (400 - (σ_20 h0 8).toInt).toNat) ?_ ⟨σ_5, ρ_6⟩ ⟨k_19, k_16, R_25, (by omega), hB, hS, lv_sub hl [0] rfl⟩
    rintro ⟨σ_20, ρ_21⟩ H locs ls ⟨k_23, k_24, g_26, g_27, hB, hS, hl⟩ ih_22
    have w_28 : 0 ≤ (σ_20 h0 8).toInt ∧ (σ_20 h0 8).toInt ≤ 400 := by have z := hB.2.1 h0 mh0 8; rw [th0] at z; exact z
    have w_29 : 0 ≤ (σ_20 h0 12).toInt ∧ (σ_20 h0 12).toInt ≤ 60 := by have z := hB.2.1 h0 mh0 12; rw [th0] at z; exact z
    have w_30 : 0 ≤ (σ_20 bl tx.toNatClampNeg).toInt ∧ (σ_20 bl tx.toNatClampNeg).toInt ≤ 400 := by have z := hB.2.1 bl mbl tx.toNatClampNeg; rw [tbl] at z; exact z
    have cq_31 := congrArg Int32.toInt k_24
    have g_26n := g_26.2.1
    refine lv_aload_n hx hb dX12_term_9 rfl (lv_at hl 0 rfl) ?_
    have cq_32 : (σ_20 h0 1).toInt = (σ h0 1).toInt := congrArg Int32.toInt k_24
    refine t_ci (va_runV (As := []) (rest := []) ⟨hx, hb, hml, hown, hts⟩ (cz_X12_see l D cA L T r hG hLA.1 σ_20 ρ_21 hB.2.1 _ h0 mh0 th0 bt hbt mbt tbt) (cV hts mv_X12_see mw_6_134 rfl rfl ⟨Nat.le_of_ble_eq_true rfl, Nat.le_of_ble_eq_true rfl⟩) (pV hB.1 hK hN mh0 th0 (show shp cA 12 _ _ _ = .inr (12, Fs12 _ _ _) from rfl) rfl) rfl rfl hl.1 rfl (lv_room (Nat.le_of_ble_eq_true rfl)) dX12_term_10 ⟨Nat.le_of_ble_eq_true rfl, Nat.le_of_ble_eq_true rfl⟩) hLA hA hB hS (by decide) (fun x_35 σ_33 ρ_34 H locs hB fσ_33 pσ_33 hS => ?_)
    obtain ⟨g_36, g_37, g_38, g_39⟩ := pσ_33
    have w_40 : 0 ≤ (σ_33 h0 8).toInt ∧ (σ_33 h0 8).toInt ≤ 400 := by have z := hB.2.1 h0 mh0 8; rw [th0] at z; exact z
    obtain ⟨lx_35, ux_35⟩ := g_36
    have k_41 : σ_33 h0 1 = (σ h0 1) := (FR.at fσ_33 th0 (by decide)).trans k_24
    have cq_42 : (σ_33 h0 1).toInt = (σ h0 1).toInt := congrArg Int32.toInt k_41
    have k_43 : σ_33 h0 12 = (σ_20 h0 12) := (FR.at fσ_33 th0 (by decide)).trans rfl
    have cq_44 : (σ_33 h0 12).toInt = (σ_20 h0 12).toInt := congrArg Int32.toInt k_43
    have k_45 : σ_33 bl tx.toNatClampNeg = (σ_20 bl tx.toNatClampNeg) := (FR.at fσ_33 tbl (by simp)).trans rfl
    have cq_46 : (σ_33 bl tx.toNatClampNeg).toInt = (σ_20 bl tx.toNatClampNeg).toInt := congrArg Int32.toInt k_45
    refine lv_bipush (v := 42) hx hb dX12_term_13 (by decide) ?_
    refine lv_icmp_eq (tgt := 36) hx hb dX12_term_15 (by decide) (fun c_47 => ?_) (fun c_47 => ?_)
    · skip
      have uc_47 := i_eq (n := 42) (by decide) c_47
      refine lv_aload_n hx hb dX12_term_36 rfl (lv_at hl 0 rfl) ?_
      refine t_gk hx hb hts hown hK hB mh0 th0 fq_12_0 hbt mw_5_216 dX12_term_37 ?_
      refine lv_aload_n hx hb dX12_term_40 rfl (lv_at hl 0 rfl) ?_
      refine t_gv hx hb hts hown hK hB mh0 th0 fi_12_8 rfl mw_5_224 dX12_term_41 ?_
      refine t_ab hx hb hK hB mbt tbt ai_61 (fun _ => rfl) (i_in (by omega) (by omega)) dX12_term_44 (fun x_48 ex_48 lx_48 ux_48 => ?_)
      have cx_48 := congrArg Int32.toInt ex_48
      refine lv_bipush (v := 42) hx hb dX12_term_45 (by decide) ?_
      refine lv_icmp_ne (tgt := 54) hx hb dX12_term_47 (by decide) (fun c_49 => ?_) (fun c_49 => ?_)
      · skip
        have uc_49 := i_ne (n := 42) (by decide) c_49
        refine lv_aload_n hx hb dX12_term_54 rfl (lv_at hl 0 rfl) ?_
        refine t_gk hx hb hts hown hK hB mh0 th0 fq_12_0 hbt mw_5_216 dX12_term_55 ?_
        refine lv_aload_n hx hb dX12_term_58 rfl (lv_at hl 0 rfl) ?_
        refine t_gv hx hb hts hown hK hB mh0 th0 fi_12_8 rfl mw_5_224 dX12_term_59 ?_
        refine t_ab hx hb hK hB mbt tbt ai_61 (fun _ => rfl) (i_in (by omega) (by omega)) dX12_term_62 (fun x_50 ex_50 lx_50 ux_50 => ?_)
        have qx_50 : x_50 = x_48 := ex_50.trans ex_48.symm
        have qx_50 := qx_50.symm
        subst qx_50
        refine lv_bipush (v := 47) hx hb dX12_term_63 (by decide) ?_
        refine lv_icmp_ne (tgt := 72) hx hb dX12_term_65 (by decide) (fun c_51 => ?_) (fun c_51 => ?_)
        · skip
          have uc_51 := i_ne (n := 47) (by decide) c_51
          refine lv_bipush (v := 14) hx hb dX12_term_72 (by decide) ?_
          refine lv_istore_n (lv' := [(1, .int 14), (0, .ref h0)]) hx hb dX12_term_74 rfl hl (by decide) rfl (fun ls hl => ?_)
          refine lv_aload_n hx hb dX12_term_75 rfl (lv_at hl 1 rfl) ?_
          refine lv_dup hx hb dX12_term_76 rfl ?_
          refine t_gv hx hb hts hown hK hB mh0 th0 fi_12_8 rfl mw_5_224 dX12_term_77 ?_
          refine lv_iconst (v := 1) hx hb dX12_term_80 (by decide) ?_
          refine lv_iadd hx hb dX12_term_81 ?_
          refine lv_topi (fun x_52 ex_52 => ?_)
          have vx_52 := b_add (rfl : (σ_33 h0 8).toInt = _) (by decide : (1 : Int32).toInt = 1) ex_52 (by omega) (by omega)
          refine t_pi hx hb hts hown hK hLA hB hS mh0 th0 fi_12_8 rfl rfl rfl (by first | omega | (subst_vars; omega)) (by first | omega | (subst_vars; omega)) (Or.inl (by decide)) mw_5_224 dX12_term_82 (fun H locs σ_53 eσ_53 hB hS => ?_)
          have k_54 : σ_53 h0 8 = x_52 := by rw [eσ_53]; exact up2_same _ _ _ _
          refine lv_aload_n hx hb dX12_term_85 rfl (lv_at hl 1 rfl) ?_
          have k_56 := FR.row fσ_33 tbg (fun j => by simp)
          have k_57a := congrFun eσ_53 bg
          rw [up2_row _ _ (tg_ne tbg th0 (by decide))] at k_57a
          have k_58 := FR.row fσ_33 tbl (fun j => by simp)
          have k_59a := congrFun eσ_53 bl
          rw [up2_row _ _ (tg_ne tbl th0 (by decide))] at k_59a
          have k_60 : σ_53 h0 12 = (σ_20 h0 12) := by rw [eσ_53, up2_nej _ _ (by decide)]; exact k_43
          have R_55 : RLx σ σ_53 h0 bg bl tx 1 1 := RLx.fr 1 g_26 ((k_57a).trans (k_56)) ((k_59a).trans (k_58)) (by rw [k_60]; omega) (by rw [k_54]; omega)
          have R_55n := R_55.2.1
          have cq_61 : (σ_53 h0 8).toInt = x_52.toInt := congrArg Int32.toInt k_54
          have k_62 : σ_53 h0 1 = (σ h0 1) := by rw [eσ_53, up2_nej _ _ (by decide)]; exact k_41
          have cq_63 : (σ_53 h0 1).toInt = (σ h0 1).toInt := congrArg Int32.toInt k_62
          have cq_64 : (σ_53 h0 12).toInt = (σ_20 h0 12).toInt := congrArg Int32.toInt k_60
          have k_65 : σ_53 bl tx.toNatClampNeg = (σ_20 bl tx.toNatClampNeg) := by rw [eσ_53, up2_nea _ _ (tg_ne tbl th0 (by decide))]; exact k_45
          have cq_66 : (σ_53 bl tx.toNatClampNeg).toInt = (σ_20 bl tx.toNatClampNeg).toInt := congrArg Int32.toInt k_65
          have k_67 : σ_33 h0 11 = tx := (FR.at fσ_33 th0 (by decide)).trans k_23
          have k_68 : σ_53 h0 11 = tx := by rw [eσ_53, up2_nej _ _ (by decide)]; exact k_67
          refine t_ci (va_runV (As := []) (rest := []) ⟨hx, hb, hml, hown, hts⟩ (cz_X12_value l D cA L T r hG hLA.1 σ_53 ρ_34 hB.2.1 _ h0 mh0 th0 bt hbt mbt tbt bg hbg mbg tbg bl hbl mbl tbl tx k_68 (by first | omega | decide) (by first | omega | decide) (by omega)) (cV hts mv_X12_value mw_6_224 rfl rfl ⟨Nat.le_of_ble_eq_true rfl, Nat.le_of_ble_eq_true rfl⟩) (pV hB.1 hK hN mh0 th0 (show shp cA 12 _ _ _ = .inr (12, Fs12 _ _ _) from rfl) rfl) rfl rfl hl.1 rfl (lv_room (Nat.le_of_ble_eq_true rfl)) dX12_term_86 ⟨Nat.le_of_ble_eq_true rfl, Nat.le_of_ble_eq_true rfl⟩) hLA hA hB hS (by decide) (fun x_71 σ_69 ρ_70 H locs hB fσ_69 pσ_69 hS => ?_)
          obtain ⟨g_72, g_73, g_74, g_75⟩ := pσ_69
          have w_76 : 0 ≤ (σ_69 bl tx.toNatClampNeg).toInt ∧ (σ_69 bl tx.toNatClampNeg).toInt ≤ 400 := by have z := hB.2.1 bl mbl tx.toNatClampNeg; rw [tbl] at z; exact z
          have w_77 : 0 ≤ (σ_69 h0 8).toInt ∧ (σ_69 h0 8).toInt ≤ 400 := by have z := hB.2.1 h0 mh0 8; rw [th0] at z; exact z
          have w_78 : 0 ≤ (σ_69 h0 12).toInt ∧ (σ_69 h0 12).toInt ≤ 60 := by have z := hB.2.1 h0 mh0 12; rw [th0] at z; exact z
          have k_79 := FR.row fσ_33 tbg (fun j => by simp)
          have k_80a := congrFun eσ_53 bg
          rw [up2_row _ _ (tg_ne tbg th0 (by decide))] at k_80a
          have k_81 := FR.row fσ_33 tbl (fun j => by simp)
          have k_82a := congrFun eσ_53 bl
          rw [up2_row _ _ (tg_ne tbl th0 (by decide))] at k_82a
          have ex_83 : EX (σ bg) (σ bl) (σ_53 bg) (σ_53 bl) tx := by rw [((k_80a).trans (k_79)), ((k_82a).trans (k_81))]; exact g_26.1
          have ex_84 := EX.tr ex_83 g_74
          obtain ⟨lx_71, ux_71⟩ := g_72
          have k_85 : σ_69 h0 1 = (σ h0 1) := (FR.at fσ_69 th0 (by decide)).trans k_62
          have cq_86 : (σ_69 h0 1).toInt = (σ h0 1).toInt := congrArg Int32.toInt k_85
          refine lv_if_ne (tgt := 94) hx hb dX12_term_89 (by decide) (fun c_87 => ?_) (fun c_87 => ?_)
          · skip
            have uc_87 := i_ne (n := 0) (by decide) c_87
            have R_88 : RLx σ σ_69 h0 bg bl tx 2 1 := RLx.tr R_55 (g_75 (by omega))
            have R_88n := R_88.2.1
            refine lv_aload_n hx hb dX12_term_94 rfl (lv_at hl 1 rfl) ?_
            refine lv_iload_n hx hb dX12_term_95 rfl (lv_at hl 0 rfl) ?_
            refine lv_iconst (v := 0) hx hb dX12_term_96 (by decide) ?_
            have hPL4 : 0 ≤ (σ_69 bl tx.toNatClampNeg).toInt := (by omega)
            have k_89 : σ_69 h0 11 = tx := (FR.at fσ_69 th0 (by decide)).trans k_68
            refine t_cv (va_runV (As := [.int 14, .int 0]) (rest := []) ⟨hx, hb, hml, hown, hts⟩ (cz_X12_puts l D cA L T r hG hLA.1 σ_69 ρ_70 hB.2.1 _ h0 mh0 th0 14 0 bg hbg mbg tbg bl hbl mbl tbl tx k_89 (by first | omega | decide) (by first | omega | decide) (by omega)) (cV hts mv_X12_puts mw_6_233 rfl rfl ⟨Nat.le_of_ble_eq_true rfl, Nat.le_of_ble_eq_true rfl⟩) (pV hB.1 hK hN mh0 th0 (show shp cA 12 _ _ _ = .inr (12, Fs12 _ _ _) from rfl) rfl) rfl rfl hl.1 rfl (lv_room (Nat.le_of_ble_eq_true rfl)) dX12_term_97 ⟨Nat.le_of_ble_eq_true rfl, Nat.le_of_ble_eq_true rfl⟩) hLA hA hB hS (by decide) (fun σ_90 ρ_91 H locs hB fσ_90 pσ_90 hS => ?_)
            have w_93 : 0 ≤ (σ_90 bl tx.toNatClampNeg).toInt ∧ (σ_90 bl tx.toNatClampNeg).toInt ≤ 400 := by have z := hB.2.1 bl mbl tx.toNatClampNeg; rw [tbl] at z; exact z
            have k_94 : σ_90 h0 8 = (σ_69 h0 8) := (FR.at fσ_90 th0 (by decide)).trans rfl
            have cq_95 : (σ_90 h0 8).toInt = (σ_69 h0 8).toInt := congrArg Int32.toInt k_94
            have k_96 : σ_90 h0 1 = (σ h0 1) := (FR.at fσ_90 th0 (by decide)).trans k_85
            have cq_97 : (σ_90 h0 1).toInt = (σ h0 1).toInt := congrArg Int32.toInt k_96
            have k_98 : σ_90 h0 12 = (σ_69 h0 12) := (FR.at fσ_90 th0 (by decide)).trans rfl
            have cq_99 : (σ_90 h0 12).toInt = (σ_69 h0 12).toInt := congrArg Int32.toInt k_98
            have ex_100 := EX.tr ex_84 (PU.ex pσ_90 (by have z := hPL4; omega))
            have R_101 : RLx σ σ_90 h0 bg bl tx 1 0 := RLx.bin (k := 0) (s := 0) R_88 pσ_90 (by have z := hPL4; omega) (FR.at fσ_90 th0 (by decide)) (FR.at fσ_90 th0 (by decide)) (stp_bin (by decide))
            have R_101n := R_101.2.1
            refine lv_goto (tgt := 9) hx hb dX12_term_100 (by decide) ?_
            have k_102 : σ_90 h0 11 = tx := (FR.at fσ_90 th0 (by decide)).trans k_89
            exact ih_22 ⟨σ_90, ρ_91⟩ _ _ _ ⟨k_102, k_96, R_101, (by rw [k_94]; omega), hB, hS, lv_sub hl [1] rfl⟩ (by show (400 - (σ_90 h0 8).toInt).toNat < (400 - (σ_20 h0 8).toInt).toNat; rw [k_94]; omega)
          · skip
            have uc_87 := i_eq (n := 0) (by decide) c_87
            refine lv_iconst (v := 0) hx hb dX12_term_92 (by decide) ?_
            exact W.zret (v := 0) hx hb hr rfl (fun t ht hW => ⟨⟨0, (σ_69, ρ_70), rfl, ⟨hB.2.1, hB.2.2, ⟨(show 0 ≤ (0 : Int32).toInt ∧ (0 : Int32).toInt ≤ 1 from ⟨by decide, by decide⟩), (show (σ h0 8).toInt ≤ (σ_69 h0 8).toInt from (by omega)), (show EX (σ bg) (σ bl) (σ_69 bg) (σ_69 bl) tx from ex_84), (show (0 : Int32).toInt = 1 → RLx σ σ_69 h0 bg bl tx 1 0 from (fun h => absurd h (by decide)))⟩⟩, (show TP D cA L T r σ_69 ρ_70 t.heap from by rw [ht]; exact hB.1)⟩, hS.F ht⟩) hS.2.2 dX12_term_93
        · skip
          have uc_51 := i_eq (n := 47) (by decide) c_51
          refine lv_iconst (v := 5) hx hb dX12_term_68 (by decide) ?_
          refine lv_goto (tgt := 74) hx hb dX12_term_69 (by decide) ?_
          refine lv_istore_n (lv' := [(1, .int 5), (0, .ref h0)]) hx hb dX12_term_74 rfl hl (by decide) rfl (fun ls hl => ?_)
          refine lv_aload_n hx hb dX12_term_75 rfl (lv_at hl 1 rfl) ?_
          refine lv_dup hx hb dX12_term_76 rfl ?_
          refine t_gv hx hb hts hown hK hB mh0 th0 fi_12_8 rfl mw_5_224 dX12_term_77 ?_
          refine lv_iconst (v := 1) hx hb dX12_term_80 (by decide) ?_
          refine lv_iadd hx hb dX12_term_81 ?_
          refine lv_topi (fun x_103 ex_103 => ?_)
          have vx_103 := b_add (rfl : (σ_33 h0 8).toInt = _) (by decide : (1 : Int32).toInt = 1) ex_103 (by omega) (by omega)
          refine t_pi hx hb hts hown hK hLA hB hS mh0 th0 fi_12_8 rfl rfl rfl (by first | omega | (subst_vars; omega)) (by first | omega | (subst_vars; omega)) (Or.inl (by decide)) mw_5_224 dX12_term_82 (fun H locs σ_104 eσ_104 hB hS => ?_)
          have k_105 : σ_104 h0 8 = x_103 := by rw [eσ_104]; exact up2_same _ _ _ _
          refine lv_aload_n hx hb dX12_term_85 rfl (lv_at hl 1 rfl) ?_
          have k_107 := FR.row fσ_33 tbg (fun j => by simp)
          have k_108a := congrFun eσ_104 bg
          rw [up2_row _ _ (tg_ne tbg th0 (by decide))] at k_108a
          have k_109 := FR.row fσ_33 tbl (fun j => by simp)
          have k_110a := congrFun eσ_104 bl
          rw [up2_row _ _ (tg_ne tbl th0 (by decide))] at k_110a
          have k_111 : σ_104 h0 12 = (σ_20 h0 12) := by rw [eσ_104, up2_nej _ _ (by decide)]; exact k_43
          have R_106 : RLx σ σ_104 h0 bg bl tx 1 1 := RLx.fr 1 g_26 ((k_108a).trans (k_107)) ((k_110a).trans (k_109)) (by rw [k_111]; omega) (by rw [k_105]; omega)
          have R_106n := R_106.2.1
          have cq_112 : (σ_104 h0 8).toInt = x_103.toInt := congrArg Int32.toInt k_105
          have k_113 : σ_104 h0 1 = (σ h0 1) := by rw [eσ_104, up2_nej _ _ (by decide)]; exact k_41
          have cq_114 : (σ_104 h0 1).toInt = (σ h0 1).toInt := congrArg Int32.toInt k_113
          have cq_115 : (σ_104 h0 12).toInt = (σ_20 h0 12).toInt := congrArg Int32.toInt k_111
          have k_116 : σ_104 bl tx.toNatClampNeg = (σ_20 bl tx.toNatClampNeg) := by rw [eσ_104, up2_nea _ _ (tg_ne tbl th0 (by decide))]; exact k_45
          have cq_117 : (σ_104 bl tx.toNatClampNeg).toInt = (σ_20 bl tx.toNatClampNeg).toInt := congrArg Int32.toInt k_116
          have k_118 : σ_33 h0 11 = tx := (FR.at fσ_33 th0 (by decide)).trans k_23
          have k_119 : σ_104 h0 11 = tx := by rw [eσ_104, up2_nej _ _ (by decide)]; exact k_118
          refine t_ci (va_runV (As := []) (rest := []) ⟨hx, hb, hml, hown, hts⟩ (cz_X12_value l D cA L T r hG hLA.1 σ_104 ρ_34 hB.2.1 _ h0 mh0 th0 bt hbt mbt tbt bg hbg mbg tbg bl hbl mbl tbl tx k_119 (by first | omega | decide) (by first | omega | decide) (by omega)) (cV hts mv_X12_value mw_6_224 rfl rfl ⟨Nat.le_of_ble_eq_true rfl, Nat.le_of_ble_eq_true rfl⟩) (pV hB.1 hK hN mh0 th0 (show shp cA 12 _ _ _ = .inr (12, Fs12 _ _ _) from rfl) rfl) rfl rfl hl.1 rfl (lv_room (Nat.le_of_ble_eq_true rfl)) dX12_term_86 ⟨Nat.le_of_ble_eq_true rfl, Nat.le_of_ble_eq_true rfl⟩) hLA hA hB hS (by decide) (fun x_122 σ_120 ρ_121 H locs hB fσ_120 pσ_120 hS => ?_)
          obtain ⟨g_123, g_124, g_125, g_126⟩ := pσ_120
          have w_127 : 0 ≤ (σ_120 bl tx.toNatClampNeg).toInt ∧ (σ_120 bl tx.toNatClampNeg).toInt ≤ 400 := by have z := hB.2.1 bl mbl tx.toNatClampNeg; rw [tbl] at z; exact z
          have w_128 : 0 ≤ (σ_120 h0 8).toInt ∧ (σ_120 h0 8).toInt ≤ 400 := by have z := hB.2.1 h0 mh0 8; rw [th0] at z; exact z
          have w_129 : 0 ≤ (σ_120 h0 12).toInt ∧ (σ_120 h0 12).toInt ≤ 60 := by have z := hB.2.1 h0 mh0 12; rw [th0] at z; exact z
          have k_130 := FR.row fσ_33 tbg (fun j => by simp)
          have k_131a := congrFun eσ_104 bg
          rw [up2_row _ _ (tg_ne tbg th0 (by decide))] at k_131a
          have k_132 := FR.row fσ_33 tbl (fun j => by simp)
          have k_133a := congrFun eσ_104 bl
          rw [up2_row _ _ (tg_ne tbl th0 (by decide))] at k_133a
          have ex_134 : EX (σ bg) (σ bl) (σ_104 bg) (σ_104 bl) tx := by rw [((k_131a).trans (k_130)), ((k_133a).trans (k_132))]; exact g_26.1
          have ex_135 := EX.tr ex_134 g_125
          obtain ⟨lx_122, ux_122⟩ := g_123
          have k_136 : σ_120 h0 1 = (σ h0 1) := (FR.at fσ_120 th0 (by decide)).trans k_113
          have cq_137 : (σ_120 h0 1).toInt = (σ h0 1).toInt := congrArg Int32.toInt k_136
          refine lv_if_ne (tgt := 94) hx hb dX12_term_89 (by decide) (fun c_138 => ?_) (fun c_138 => ?_)
          · skip
            have uc_138 := i_ne (n := 0) (by decide) c_138
            have R_139 : RLx σ σ_120 h0 bg bl tx 2 1 := RLx.tr R_106 (g_126 (by omega))
            have R_139n := R_139.2.1
            refine lv_aload_n hx hb dX12_term_94 rfl (lv_at hl 1 rfl) ?_
            refine lv_iload_n hx hb dX12_term_95 rfl (lv_at hl 0 rfl) ?_
            refine lv_iconst (v := 0) hx hb dX12_term_96 (by decide) ?_
            have hPL4 : 0 ≤ (σ_120 bl tx.toNatClampNeg).toInt := (by omega)
            have k_140 : σ_120 h0 11 = tx := (FR.at fσ_120 th0 (by decide)).trans k_119
            refine t_cv (va_runV (As := [.int 5, .int 0]) (rest := []) ⟨hx, hb, hml, hown, hts⟩ (cz_X12_puts l D cA L T r hG hLA.1 σ_120 ρ_121 hB.2.1 _ h0 mh0 th0 5 0 bg hbg mbg tbg bl hbl mbl tbl tx k_140 (by first | omega | decide) (by first | omega | decide) (by omega)) (cV hts mv_X12_puts mw_6_233 rfl rfl ⟨Nat.le_of_ble_eq_true rfl, Nat.le_of_ble_eq_true rfl⟩) (pV hB.1 hK hN mh0 th0 (show shp cA 12 _ _ _ = .inr (12, Fs12 _ _ _) from rfl) rfl) rfl rfl hl.1 rfl (lv_room (Nat.le_of_ble_eq_true rfl)) dX12_term_97 ⟨Nat.le_of_ble_eq_true rfl, Nat.le_of_ble_eq_true rfl⟩) hLA hA hB hS (by decide) (fun σ_141 ρ_142 H locs hB fσ_141 pσ_141 hS => ?_)
            have w_144 : 0 ≤ (σ_141 bl tx.toNatClampNeg).toInt ∧ (σ_141 bl tx.toNatClampNeg).toInt ≤ 400 := by have z := hB.2.1 bl mbl tx.toNatClampNeg; rw [tbl] at z; exact z
            have k_145 : σ_141 h0 8 = (σ_120 h0 8) := (FR.at fσ_141 th0 (by decide)).trans rfl
            have cq_146 : (σ_141 h0 8).toInt = (σ_120 h0 8).toInt := congrArg Int32.toInt k_145
            have k_147 : σ_141 h0 1 = (σ h0 1) := (FR.at fσ_141 th0 (by decide)).trans k_136
            have cq_148 : (σ_141 h0 1).toInt = (σ h0 1).toInt := congrArg Int32.toInt k_147
            have k_149 : σ_141 h0 12 = (σ_120 h0 12) := (FR.at fσ_141 th0 (by decide)).trans rfl
            have cq_150 : (σ_141 h0 12).toInt = (σ_120 h0 12).toInt := congrArg Int32.toInt k_149
            have ex_151 := EX.tr ex_135 (PU.ex pσ_141 (by have z := hPL4; omega))
            have R_152 : RLx σ σ_141 h0 bg bl tx 1 0 := RLx.bin (k := 0) (s := 0) R_139 pσ_141 (by have z := hPL4; omega) (FR.at fσ_141 th0 (by decide)) (FR.at fσ_141 th0 (by decide)) (stp_bin (by decide))
            have R_152n := R_152.2.1
            refine lv_goto (tgt := 9) hx hb dX12_term_100 (by decide) ?_
            have k_153 : σ_141 h0 11 = tx := (FR.at fσ_141 th0 (by decide)).trans k_140
            exact ih_22 ⟨σ_141, ρ_142⟩ _ _ _ ⟨k_153, k_147, R_152, (by rw [k_145]; omega), hB, hS, lv_sub hl [1] rfl⟩ (by show (400 - (σ_141 h0 8).toInt).toNat < (400 - (σ_20 h0 8).toInt).toNat; rw [k_145]; omega)
          · skip
            have uc_138 := i_eq (n := 0) (by decide) c_138
            refine lv_iconst (v := 0) hx hb dX12_term_92 (by decide) ?_
            exact W.zret (v := 0) hx hb hr rfl (fun t ht hW => ⟨⟨0, (σ_120, ρ_121), rfl, ⟨hB.2.1, hB.2.2, ⟨(show 0 ≤ (0 : Int32).toInt ∧ (0 : Int32).toInt ≤ 1 from ⟨by decide, by decide⟩), (show (σ h0 8).toInt ≤ (σ_120 h0 8).toInt from (by omega)), (show EX (σ bg) (σ bl) (σ_120 bg) (σ_120 bl) tx from ex_135), (show (0 : Int32).toInt = 1 → RLx σ σ_120 h0 bg bl tx 1 0 from (fun h => absurd h (by decide)))⟩⟩, (show TP D cA L T r σ_120 ρ_121 t.heap from by rw [ht]; exact hB.1)⟩, hS.F ht⟩) hS.2.2 dX12_term_93
      · skip
        have uc_49 := i_eq (n := 42) (by decide) c_49
        refine lv_iconst (v := 4) hx hb dX12_term_50 (by decide) ?_
        refine lv_goto (tgt := 74) hx hb dX12_term_51 (by decide) ?_
        refine lv_istore_n (lv' := [(1, .int 4), (0, .ref h0)]) hx hb dX12_term_74 rfl hl (by decide) rfl (fun ls hl => ?_)
        refine lv_aload_n hx hb dX12_term_75 rfl (lv_at hl 1 rfl) ?_
        refine lv_dup hx hb dX12_term_76 rfl ?_
        refine t_gv hx hb hts hown hK hB mh0 th0 fi_12_8 rfl mw_5_224 dX12_term_77 ?_
        refine lv_iconst (v := 1) hx hb dX12_term_80 (by decide) ?_
        refine lv_iadd hx hb dX12_term_81 ?_
        refine lv_topi (fun x_154 ex_154 => ?_)
        have vx_154 := b_add (rfl : (σ_33 h0 8).toInt = _) (by decide : (1 : Int32).toInt = 1) ex_154 (by omega) (by omega)
        refine t_pi hx hb hts hown hK hLA hB hS mh0 th0 fi_12_8 rfl rfl rfl (by first | omega | (subst_vars; omega)) (by first | omega | (subst_vars; omega)) (Or.inl (by decide)) mw_5_224 dX12_term_82 (fun H locs σ_155 eσ_155 hB hS => ?_)
        have k_156 : σ_155 h0 8 = x_154 := by rw [eσ_155]; exact up2_same _ _ _ _
        refine lv_aload_n hx hb dX12_term_85 rfl (lv_at hl 1 rfl) ?_
        have k_158 := FR.row fσ_33 tbg (fun j => by simp)
        have k_159a := congrFun eσ_155 bg
        rw [up2_row _ _ (tg_ne tbg th0 (by decide))] at k_159a
        have k_160 := FR.row fσ_33 tbl (fun j => by simp)
        have k_161a := congrFun eσ_155 bl
        rw [up2_row _ _ (tg_ne tbl th0 (by decide))] at k_161a
        have k_162 : σ_155 h0 12 = (σ_20 h0 12) := by rw [eσ_155, up2_nej _ _ (by decide)]; exact k_43
        have R_157 : RLx σ σ_155 h0 bg bl tx 1 1 := RLx.fr 1 g_26 ((k_159a).trans (k_158)) ((k_161a).trans (k_160)) (by rw [k_162]; omega) (by rw [k_156]; omega)
        have R_157n := R_157.2.1
        have cq_163 : (σ_155 h0 8).toInt = x_154.toInt := congrArg Int32.toInt k_156
        have k_164 : σ_155 h0 1 = (σ h0 1) := by rw [eσ_155, up2_nej _ _ (by decide)]; exact k_41
        have cq_165 : (σ_155 h0 1).toInt = (σ h0 1).toInt := congrArg Int32.toInt k_164
        have cq_166 : (σ_155 h0 12).toInt = (σ_20 h0 12).toInt := congrArg Int32.toInt k_162
        have k_167 : σ_155 bl tx.toNatClampNeg = (σ_20 bl tx.toNatClampNeg) := by rw [eσ_155, up2_nea _ _ (tg_ne tbl th0 (by decide))]; exact k_45
        have cq_168 : (σ_155 bl tx.toNatClampNeg).toInt = (σ_20 bl tx.toNatClampNeg).toInt := congrArg Int32.toInt k_167
        have k_169 : σ_33 h0 11 = tx := (FR.at fσ_33 th0 (by decide)).trans k_23
        have k_170 : σ_155 h0 11 = tx := by rw [eσ_155, up2_nej _ _ (by decide)]; exact k_169
        refine t_ci (va_runV (As := []) (rest := []) ⟨hx, hb, hml, hown, hts⟩ (cz_X12_value l D cA L T r hG hLA.1 σ_155 ρ_34 hB.2.1 _ h0 mh0 th0 bt hbt mbt tbt bg hbg mbg tbg bl hbl mbl tbl tx k_170 (by first | omega | decide) (by first | omega | decide) (by omega)) (cV hts mv_X12_value mw_6_224 rfl rfl ⟨Nat.le_of_ble_eq_true rfl, Nat.le_of_ble_eq_true rfl⟩) (pV hB.1 hK hN mh0 th0 (show shp cA 12 _ _ _ = .inr (12, Fs12 _ _ _) from rfl) rfl) rfl rfl hl.1 rfl (lv_room (Nat.le_of_ble_eq_true rfl)) dX12_term_86 ⟨Nat.le_of_ble_eq_true rfl, Nat.le_of_ble_eq_true rfl⟩) hLA hA hB hS (by decide) (fun x_173 σ_171 ρ_172 H locs hB fσ_171 pσ_171 hS => ?_)
        obtain ⟨g_174, g_175, g_176, g_177⟩ := pσ_171
        have w_178 : 0 ≤ (σ_171 bl tx.toNatClampNeg).toInt ∧ (σ_171 bl tx.toNatClampNeg).toInt ≤ 400 := by have z := hB.2.1 bl mbl tx.toNatClampNeg; rw [tbl] at z; exact z
        have w_179 : 0 ≤ (σ_171 h0 8).toInt ∧ (σ_171 h0 8).toInt ≤ 400 := by have z := hB.2.1 h0 mh0 8; rw [th0] at z; exact z
        have w_180 : 0 ≤ (σ_171 h0 12).toInt ∧ (σ_171 h0 12).toInt ≤ 60 := by have z := hB.2.1 h0 mh0 12; rw [th0] at z; exact z
        have k_181 := FR.row fσ_33 tbg (fun j => by simp)
        have k_182a := congrFun eσ_155 bg
        rw [up2_row _ _ (tg_ne tbg th0 (by decide))] at k_182a
        have k_183 := FR.row fσ_33 tbl (fun j => by simp)
        have k_184a := congrFun eσ_155 bl
        rw [up2_row _ _ (tg_ne tbl th0 (by decide))] at k_184a
        have ex_185 : EX (σ bg) (σ bl) (σ_155 bg) (σ_155 bl) tx := by rw [((k_182a).trans (k_181)), ((k_184a).trans (k_183))]; exact g_26.1
        have ex_186 := EX.tr ex_185 g_176
        obtain ⟨lx_173, ux_173⟩ := g_174
        have k_187 : σ_171 h0 1 = (σ h0 1) := (FR.at fσ_171 th0 (by decide)).trans k_164
        have cq_188 : (σ_171 h0 1).toInt = (σ h0 1).toInt := congrArg Int32.toInt k_187
        refine lv_if_ne (tgt := 94) hx hb dX12_term_89 (by decide) (fun c_189 => ?_) (fun c_189 => ?_)
        · skip
          have uc_189 := i_ne (n := 0) (by decide) c_189
          have R_190 : RLx σ σ_171 h0 bg bl tx 2 1 := RLx.tr R_157 (g_177 (by omega))
          have R_190n := R_190.2.1
          refine lv_aload_n hx hb dX12_term_94 rfl (lv_at hl 1 rfl) ?_
          refine lv_iload_n hx hb dX12_term_95 rfl (lv_at hl 0 rfl) ?_
          refine lv_iconst (v := 0) hx hb dX12_term_96 (by decide) ?_
          have hPL4 : 0 ≤ (σ_171 bl tx.toNatClampNeg).toInt := (by omega)
          have k_191 : σ_171 h0 11 = tx := (FR.at fσ_171 th0 (by decide)).trans k_170
          refine t_cv (va_runV (As := [.int 4, .int 0]) (rest := []) ⟨hx, hb, hml, hown, hts⟩ (cz_X12_puts l D cA L T r hG hLA.1 σ_171 ρ_172 hB.2.1 _ h0 mh0 th0 4 0 bg hbg mbg tbg bl hbl mbl tbl tx k_191 (by first | omega | decide) (by first | omega | decide) (by omega)) (cV hts mv_X12_puts mw_6_233 rfl rfl ⟨Nat.le_of_ble_eq_true rfl, Nat.le_of_ble_eq_true rfl⟩) (pV hB.1 hK hN mh0 th0 (show shp cA 12 _ _ _ = .inr (12, Fs12 _ _ _) from rfl) rfl) rfl rfl hl.1 rfl (lv_room (Nat.le_of_ble_eq_true rfl)) dX12_term_97 ⟨Nat.le_of_ble_eq_true rfl, Nat.le_of_ble_eq_true rfl⟩) hLA hA hB hS (by decide) (fun σ_192 ρ_193 H locs hB fσ_192 pσ_192 hS => ?_)
          have w_195 : 0 ≤ (σ_192 bl tx.toNatClampNeg).toInt ∧ (σ_192 bl tx.toNatClampNeg).toInt ≤ 400 := by have z := hB.2.1 bl mbl tx.toNatClampNeg; rw [tbl] at z; exact z
          have k_196 : σ_192 h0 8 = (σ_171 h0 8) := (FR.at fσ_192 th0 (by decide)).trans rfl
          have cq_197 : (σ_192 h0 8).toInt = (σ_171 h0 8).toInt := congrArg Int32.toInt k_196
          have k_198 : σ_192 h0 1 = (σ h0 1) := (FR.at fσ_192 th0 (by decide)).trans k_187
          have cq_199 : (σ_192 h0 1).toInt = (σ h0 1).toInt := congrArg Int32.toInt k_198
          have k_200 : σ_192 h0 12 = (σ_171 h0 12) := (FR.at fσ_192 th0 (by decide)).trans rfl
          have cq_201 : (σ_192 h0 12).toInt = (σ_171 h0 12).toInt := congrArg Int32.toInt k_200
          have ex_202 := EX.tr ex_186 (PU.ex pσ_192 (by have z := hPL4; omega))
          have R_203 : RLx σ σ_192 h0 bg bl tx 1 0 := RLx.bin (k := 0) (s := 0) R_190 pσ_192 (by have z := hPL4; omega) (FR.at fσ_192 th0 (by decide)) (FR.at fσ_192 th0 (by decide)) (stp_bin (by decide))
          have R_203n := R_203.2.1
          refine lv_goto (tgt := 9) hx hb dX12_term_100 (by decide) ?_
          have k_204 : σ_192 h0 11 = tx := (FR.at fσ_192 th0 (by decide)).trans k_191
          exact ih_22 ⟨σ_192, ρ_193⟩ _ _ _ ⟨k_204, k_198, R_203, (by rw [k_196]; omega), hB, hS, lv_sub hl [1] rfl⟩ (by show (400 - (σ_192 h0 8).toInt).toNat < (400 - (σ_20 h0 8).toInt).toNat; rw [k_196]; omega)
        · skip
          have uc_189 := i_eq (n := 0) (by decide) c_189
          refine lv_iconst (v := 0) hx hb dX12_term_92 (by decide) ?_
          exact W.zret (v := 0) hx hb hr rfl (fun t ht hW => ⟨⟨0, (σ_171, ρ_172), rfl, ⟨hB.2.1, hB.2.2, ⟨(show 0 ≤ (0 : Int32).toInt ∧ (0 : Int32).toInt ≤ 1 from ⟨by decide, by decide⟩), (show (σ h0 8).toInt ≤ (σ_171 h0 8).toInt from (by omega)), (show EX (σ bg) (σ bl) (σ_171 bg) (σ_171 bl) tx from ex_186), (show (0 : Int32).toInt = 1 → RLx σ σ_171 h0 bg bl tx 1 0 from (fun h => absurd h (by decide)))⟩⟩, (show TP D cA L T r σ_171 ρ_172 t.heap from by rw [ht]; exact hB.1)⟩, hS.F ht⟩) hS.2.2 dX12_term_93
    · skip
      have uc_47 := i_ne (n := 42) (by decide) c_47
      refine lv_aload_n hx hb dX12_term_18 rfl (lv_at hl 0 rfl) ?_
      refine t_ci (va_runV (As := []) (rest := []) ⟨hx, hb, hml, hown, hts⟩ (cz_X12_see l D cA L T r hG hLA.1 σ_33 ρ_34 hB.2.1 _ h0 mh0 th0 bt hbt mbt tbt) (cV hts mv_X12_see mw_6_134 rfl rfl ⟨Nat.le_of_ble_eq_true rfl, Nat.le_of_ble_eq_true rfl⟩) (pV hB.1 hK hN mh0 th0 (show shp cA 12 _ _ _ = .inr (12, Fs12 _ _ _) from rfl) rfl) rfl rfl hl.1 rfl (lv_room (Nat.le_of_ble_eq_true rfl)) dX12_term_19 ⟨Nat.le_of_ble_eq_true rfl, Nat.le_of_ble_eq_true rfl⟩) hLA hA hB hS (by decide) (fun x_207 σ_205 ρ_206 H locs hB fσ_205 pσ_205 hS => ?_)
      obtain ⟨g_208, g_209, g_210, g_211⟩ := pσ_205
      have w_212 : 0 ≤ (σ_205 h0 8).toInt ∧ (σ_205 h0 8).toInt ≤ 400 := by have z := hB.2.1 h0 mh0 8; rw [th0] at z; exact z
      obtain ⟨lx_207, ux_207⟩ := g_208
      have k_213 : σ_205 h0 1 = (σ h0 1) := (FR.at fσ_205 th0 (by decide)).trans k_41
      have cq_214 : (σ_205 h0 1).toInt = (σ h0 1).toInt := congrArg Int32.toInt k_213
      have k_215 : σ_205 h0 12 = (σ_20 h0 12) := (FR.at fσ_205 th0 (by decide)).trans k_43
      have cq_216 : (σ_205 h0 12).toInt = (σ_20 h0 12).toInt := congrArg Int32.toInt k_215
      have k_217 : σ_205 bl tx.toNatClampNeg = (σ_20 bl tx.toNatClampNeg) := (FR.at fσ_205 tbl (by simp)).trans k_45
      have cq_218 : (σ_205 bl tx.toNatClampNeg).toInt = (σ_20 bl tx.toNatClampNeg).toInt := congrArg Int32.toInt k_217
      refine lv_bipush (v := 47) hx hb dX12_term_22 (by decide) ?_
      refine lv_icmp_eq (tgt := 36) hx hb dX12_term_24 (by decide) (fun c_219 => ?_) (fun c_219 => ?_)
      · skip
        have uc_219 := i_eq (n := 47) (by decide) c_219
        refine lv_aload_n hx hb dX12_term_36 rfl (lv_at hl 0 rfl) ?_
        refine t_gk hx hb hts hown hK hB mh0 th0 fq_12_0 hbt mw_5_216 dX12_term_37 ?_
        refine lv_aload_n hx hb dX12_term_40 rfl (lv_at hl 0 rfl) ?_
        refine t_gv hx hb hts hown hK hB mh0 th0 fi_12_8 rfl mw_5_224 dX12_term_41 ?_
        refine t_ab hx hb hK hB mbt tbt ai_61 (fun _ => rfl) (i_in (by omega) (by omega)) dX12_term_44 (fun x_220 ex_220 lx_220 ux_220 => ?_)
        have cx_220 := congrArg Int32.toInt ex_220
        refine lv_bipush (v := 42) hx hb dX12_term_45 (by decide) ?_
        refine lv_icmp_ne (tgt := 54) hx hb dX12_term_47 (by decide) (fun c_221 => ?_) (fun c_221 => ?_)
        · skip
          have uc_221 := i_ne (n := 42) (by decide) c_221
          refine lv_aload_n hx hb dX12_term_54 rfl (lv_at hl 0 rfl) ?_
          refine t_gk hx hb hts hown hK hB mh0 th0 fq_12_0 hbt mw_5_216 dX12_term_55 ?_
          refine lv_aload_n hx hb dX12_term_58 rfl (lv_at hl 0 rfl) ?_
          refine t_gv hx hb hts hown hK hB mh0 th0 fi_12_8 rfl mw_5_224 dX12_term_59 ?_
          refine t_ab hx hb hK hB mbt tbt ai_61 (fun _ => rfl) (i_in (by omega) (by omega)) dX12_term_62 (fun x_222 ex_222 lx_222 ux_222 => ?_)
          have qx_222 : x_222 = x_220 := ex_222.trans ex_220.symm
          have qx_222 := qx_222.symm
          subst qx_222
          refine lv_bipush (v := 47) hx hb dX12_term_63 (by decide) ?_
          refine lv_icmp_ne (tgt := 72) hx hb dX12_term_65 (by decide) (fun c_223 => ?_) (fun c_223 => ?_)
          · skip
            have uc_223 := i_ne (n := 47) (by decide) c_223
            refine lv_bipush (v := 14) hx hb dX12_term_72 (by decide) ?_
            refine lv_istore_n (lv' := [(1, .int 14), (0, .ref h0)]) hx hb dX12_term_74 rfl hl (by decide) rfl (fun ls hl => ?_)
            refine lv_aload_n hx hb dX12_term_75 rfl (lv_at hl 1 rfl) ?_
            refine lv_dup hx hb dX12_term_76 rfl ?_
            refine t_gv hx hb hts hown hK hB mh0 th0 fi_12_8 rfl mw_5_224 dX12_term_77 ?_
            refine lv_iconst (v := 1) hx hb dX12_term_80 (by decide) ?_
            refine lv_iadd hx hb dX12_term_81 ?_
            refine lv_topi (fun x_224 ex_224 => ?_)
            have vx_224 := b_add (rfl : (σ_205 h0 8).toInt = _) (by decide : (1 : Int32).toInt = 1) ex_224 (by omega) (by omega)
            refine t_pi hx hb hts hown hK hLA hB hS mh0 th0 fi_12_8 rfl rfl rfl (by first | omega | (subst_vars; omega)) (by first | omega | (subst_vars; omega)) (Or.inl (by decide)) mw_5_224 dX12_term_82 (fun H locs σ_225 eσ_225 hB hS => ?_)
            have k_226 : σ_225 h0 8 = x_224 := by rw [eσ_225]; exact up2_same _ _ _ _
            refine lv_aload_n hx hb dX12_term_85 rfl (lv_at hl 1 rfl) ?_
            have k_228 := FR.row fσ_33 tbg (fun j => by simp)
            have k_229 := FR.row fσ_205 tbg (fun j => by simp)
            have k_230a := congrFun eσ_225 bg
            rw [up2_row _ _ (tg_ne tbg th0 (by decide))] at k_230a
            have k_231 := FR.row fσ_33 tbl (fun j => by simp)
            have k_232 := FR.row fσ_205 tbl (fun j => by simp)
            have k_233a := congrFun eσ_225 bl
            rw [up2_row _ _ (tg_ne tbl th0 (by decide))] at k_233a
            have k_234 : σ_225 h0 12 = (σ_20 h0 12) := by rw [eσ_225, up2_nej _ _ (by decide)]; exact k_215
            have R_227 : RLx σ σ_225 h0 bg bl tx 1 1 := RLx.fr 1 g_26 ((k_230a).trans ((k_229).trans (k_228))) ((k_233a).trans ((k_232).trans (k_231))) (by rw [k_234]; omega) (by rw [k_226]; omega)
            have R_227n := R_227.2.1
            have cq_235 : (σ_225 h0 8).toInt = x_224.toInt := congrArg Int32.toInt k_226
            have k_236 : σ_225 h0 1 = (σ h0 1) := by rw [eσ_225, up2_nej _ _ (by decide)]; exact k_213
            have cq_237 : (σ_225 h0 1).toInt = (σ h0 1).toInt := congrArg Int32.toInt k_236
            have cq_238 : (σ_225 h0 12).toInt = (σ_20 h0 12).toInt := congrArg Int32.toInt k_234
            have k_239 : σ_225 bl tx.toNatClampNeg = (σ_20 bl tx.toNatClampNeg) := by rw [eσ_225, up2_nea _ _ (tg_ne tbl th0 (by decide))]; exact k_217
            have cq_240 : (σ_225 bl tx.toNatClampNeg).toInt = (σ_20 bl tx.toNatClampNeg).toInt := congrArg Int32.toInt k_239
            have k_241 : σ_33 h0 11 = tx := (FR.at fσ_33 th0 (by decide)).trans k_23
            have k_242 : σ_205 h0 11 = tx := (FR.at fσ_205 th0 (by decide)).trans k_241
            have k_243 : σ_225 h0 11 = tx := by rw [eσ_225, up2_nej _ _ (by decide)]; exact k_242
            refine t_ci (va_runV (As := []) (rest := []) ⟨hx, hb, hml, hown, hts⟩ (cz_X12_value l D cA L T r hG hLA.1 σ_225 ρ_206 hB.2.1 _ h0 mh0 th0 bt hbt mbt tbt bg hbg mbg tbg bl hbl mbl tbl tx k_243 (by first | omega | decide) (by first | omega | decide) (by omega)) (cV hts mv_X12_value mw_6_224 rfl rfl ⟨Nat.le_of_ble_eq_true rfl, Nat.le_of_ble_eq_true rfl⟩) (pV hB.1 hK hN mh0 th0 (show shp cA 12 _ _ _ = .inr (12, Fs12 _ _ _) from rfl) rfl) rfl rfl hl.1 rfl (lv_room (Nat.le_of_ble_eq_true rfl)) dX12_term_86 ⟨Nat.le_of_ble_eq_true rfl, Nat.le_of_ble_eq_true rfl⟩) hLA hA hB hS (by decide) (fun x_246 σ_244 ρ_245 H locs hB fσ_244 pσ_244 hS => ?_)
            obtain ⟨g_247, g_248, g_249, g_250⟩ := pσ_244
            have w_251 : 0 ≤ (σ_244 bl tx.toNatClampNeg).toInt ∧ (σ_244 bl tx.toNatClampNeg).toInt ≤ 400 := by have z := hB.2.1 bl mbl tx.toNatClampNeg; rw [tbl] at z; exact z
            have w_252 : 0 ≤ (σ_244 h0 8).toInt ∧ (σ_244 h0 8).toInt ≤ 400 := by have z := hB.2.1 h0 mh0 8; rw [th0] at z; exact z
            have w_253 : 0 ≤ (σ_244 h0 12).toInt ∧ (σ_244 h0 12).toInt ≤ 60 := by have z := hB.2.1 h0 mh0 12; rw [th0] at z; exact z
            have k_254 := FR.row fσ_33 tbg (fun j => by simp)
            have k_255 := FR.row fσ_205 tbg (fun j => by simp)
            have k_256a := congrFun eσ_225 bg
            rw [up2_row _ _ (tg_ne tbg th0 (by decide))] at k_256a
            have k_257 := FR.row fσ_33 tbl (fun j => by simp)
            have k_258 := FR.row fσ_205 tbl (fun j => by simp)
            have k_259a := congrFun eσ_225 bl
            rw [up2_row _ _ (tg_ne tbl th0 (by decide))] at k_259a
            have ex_260 : EX (σ bg) (σ bl) (σ_225 bg) (σ_225 bl) tx := by rw [((k_256a).trans ((k_255).trans (k_254))), ((k_259a).trans ((k_258).trans (k_257)))]; exact g_26.1
            have ex_261 := EX.tr ex_260 g_249
            obtain ⟨lx_246, ux_246⟩ := g_247
            have k_262 : σ_244 h0 1 = (σ h0 1) := (FR.at fσ_244 th0 (by decide)).trans k_236
            have cq_263 : (σ_244 h0 1).toInt = (σ h0 1).toInt := congrArg Int32.toInt k_262
            refine lv_if_ne (tgt := 94) hx hb dX12_term_89 (by decide) (fun c_264 => ?_) (fun c_264 => ?_)
            · skip
              have uc_264 := i_ne (n := 0) (by decide) c_264
              have R_265 : RLx σ σ_244 h0 bg bl tx 2 1 := RLx.tr R_227 (g_250 (by omega))
              have R_265n := R_265.2.1
              refine lv_aload_n hx hb dX12_term_94 rfl (lv_at hl 1 rfl) ?_
              refine lv_iload_n hx hb dX12_term_95 rfl (lv_at hl 0 rfl) ?_
              refine lv_iconst (v := 0) hx hb dX12_term_96 (by decide) ?_
              have hPL5 : 0 ≤ (σ_244 bl tx.toNatClampNeg).toInt := (by omega)
              have k_266 : σ_244 h0 11 = tx := (FR.at fσ_244 th0 (by decide)).trans k_243
              refine t_cv (va_runV (As := [.int 14, .int 0]) (rest := []) ⟨hx, hb, hml, hown, hts⟩ (cz_X12_puts l D cA L T r hG hLA.1 σ_244 ρ_245 hB.2.1 _ h0 mh0 th0 14 0 bg hbg mbg tbg bl hbl mbl tbl tx k_266 (by first | omega | decide) (by first | omega | decide) (by omega)) (cV hts mv_X12_puts mw_6_233 rfl rfl ⟨Nat.le_of_ble_eq_true rfl, Nat.le_of_ble_eq_true rfl⟩) (pV hB.1 hK hN mh0 th0 (show shp cA 12 _ _ _ = .inr (12, Fs12 _ _ _) from rfl) rfl) rfl rfl hl.1 rfl (lv_room (Nat.le_of_ble_eq_true rfl)) dX12_term_97 ⟨Nat.le_of_ble_eq_true rfl, Nat.le_of_ble_eq_true rfl⟩) hLA hA hB hS (by decide) (fun σ_267 ρ_268 H locs hB fσ_267 pσ_267 hS => ?_)
              have w_270 : 0 ≤ (σ_267 bl tx.toNatClampNeg).toInt ∧ (σ_267 bl tx.toNatClampNeg).toInt ≤ 400 := by have z := hB.2.1 bl mbl tx.toNatClampNeg; rw [tbl] at z; exact z
              have k_271 : σ_267 h0 8 = (σ_244 h0 8) := (FR.at fσ_267 th0 (by decide)).trans rfl
              have cq_272 : (σ_267 h0 8).toInt = (σ_244 h0 8).toInt := congrArg Int32.toInt k_271
              have k_273 : σ_267 h0 1 = (σ h0 1) := (FR.at fσ_267 th0 (by decide)).trans k_262
              have cq_274 : (σ_267 h0 1).toInt = (σ h0 1).toInt := congrArg Int32.toInt k_273
              have k_275 : σ_267 h0 12 = (σ_244 h0 12) := (FR.at fσ_267 th0 (by decide)).trans rfl
              have cq_276 : (σ_267 h0 12).toInt = (σ_244 h0 12).toInt := congrArg Int32.toInt k_275
              have ex_277 := EX.tr ex_261 (PU.ex pσ_267 (by have z := hPL5; omega))
              have R_278 : RLx σ σ_267 h0 bg bl tx 1 0 := RLx.bin (k := 0) (s := 0) R_265 pσ_267 (by have z := hPL5; omega) (FR.at fσ_267 th0 (by decide)) (FR.at fσ_267 th0 (by decide)) (stp_bin (by decide))
              have R_278n := R_278.2.1
              refine lv_goto (tgt := 9) hx hb dX12_term_100 (by decide) ?_
              have k_279 : σ_267 h0 11 = tx := (FR.at fσ_267 th0 (by decide)).trans k_266
              exact ih_22 ⟨σ_267, ρ_268⟩ _ _ _ ⟨k_279, k_273, R_278, (by rw [k_271]; omega), hB, hS, lv_sub hl [1] rfl⟩ (by show (400 - (σ_267 h0 8).toInt).toNat < (400 - (σ_20 h0 8).toInt).toNat; rw [k_271]; omega)
            · skip
              have uc_264 := i_eq (n := 0) (by decide) c_264
              refine lv_iconst (v := 0) hx hb dX12_term_92 (by decide) ?_
              exact W.zret (v := 0) hx hb hr rfl (fun t ht hW => ⟨⟨0, (σ_244, ρ_245), rfl, ⟨hB.2.1, hB.2.2, ⟨(show 0 ≤ (0 : Int32).toInt ∧ (0 : Int32).toInt ≤ 1 from ⟨by decide, by decide⟩), (show (σ h0 8).toInt ≤ (σ_244 h0 8).toInt from (by omega)), (show EX (σ bg) (σ bl) (σ_244 bg) (σ_244 bl) tx from ex_261), (show (0 : Int32).toInt = 1 → RLx σ σ_244 h0 bg bl tx 1 0 from (fun h => absurd h (by decide)))⟩⟩, (show TP D cA L T r σ_244 ρ_245 t.heap from by rw [ht]; exact hB.1)⟩, hS.F ht⟩) hS.2.2 dX12_term_93
          · skip
            have uc_223 := i_eq (n := 47) (by decide) c_223
            refine lv_iconst (v := 5) hx hb dX12_term_68 (by decide) ?_
            refine lv_goto (tgt := 74) hx hb dX12_term_69 (by decide) ?_
            refine lv_istore_n (lv' := [(1, .int 5), (0, .ref h0)]) hx hb dX12_term_74 rfl hl (by decide) rfl (fun ls hl => ?_)
            refine lv_aload_n hx hb dX12_term_75 rfl (lv_at hl 1 rfl) ?_
            refine lv_dup hx hb dX12_term_76 rfl ?_
            refine t_gv hx hb hts hown hK hB mh0 th0 fi_12_8 rfl mw_5_224 dX12_term_77 ?_
            refine lv_iconst (v := 1) hx hb dX12_term_80 (by decide) ?_
            refine lv_iadd hx hb dX12_term_81 ?_
            refine lv_topi (fun x_280 ex_280 => ?_)
            have vx_280 := b_add (rfl : (σ_205 h0 8).toInt = _) (by decide : (1 : Int32).toInt = 1) ex_280 (by omega) (by omega)
            refine t_pi hx hb hts hown hK hLA hB hS mh0 th0 fi_12_8 rfl rfl rfl (by first | omega | (subst_vars; omega)) (by first | omega | (subst_vars; omega)) (Or.inl (by decide)) mw_5_224 dX12_term_82 (fun H locs σ_281 eσ_281 hB hS => ?_)
            have k_282 : σ_281 h0 8 = x_280 := by rw [eσ_281]; exact up2_same _ _ _ _
            refine lv_aload_n hx hb dX12_term_85 rfl (lv_at hl 1 rfl) ?_
            have k_284 := FR.row fσ_33 tbg (fun j => by simp)
            have k_285 := FR.row fσ_205 tbg (fun j => by simp)
            have k_286a := congrFun eσ_281 bg
            rw [up2_row _ _ (tg_ne tbg th0 (by decide))] at k_286a
            have k_287 := FR.row fσ_33 tbl (fun j => by simp)
            have k_288 := FR.row fσ_205 tbl (fun j => by simp)
            have k_289a := congrFun eσ_281 bl
            rw [up2_row _ _ (tg_ne tbl th0 (by decide))] at k_289a
            have k_290 : σ_281 h0 12 = (σ_20 h0 12) := by rw [eσ_281, up2_nej _ _ (by decide)]; exact k_215
            have R_283 : RLx σ σ_281 h0 bg bl tx 1 1 := RLx.fr 1 g_26 ((k_286a).trans ((k_285).trans (k_284))) ((k_289a).trans ((k_288).trans (k_287))) (by rw [k_290]; omega) (by rw [k_282]; omega)
            have R_283n := R_283.2.1
            have cq_291 : (σ_281 h0 8).toInt = x_280.toInt := congrArg Int32.toInt k_282
            have k_292 : σ_281 h0 1 = (σ h0 1) := by rw [eσ_281, up2_nej _ _ (by decide)]; exact k_213
            have cq_293 : (σ_281 h0 1).toInt = (σ h0 1).toInt := congrArg Int32.toInt k_292
            have cq_294 : (σ_281 h0 12).toInt = (σ_20 h0 12).toInt := congrArg Int32.toInt k_290
            have k_295 : σ_281 bl tx.toNatClampNeg = (σ_20 bl tx.toNatClampNeg) := by rw [eσ_281, up2_nea _ _ (tg_ne tbl th0 (by decide))]; exact k_217
            have cq_296 : (σ_281 bl tx.toNatClampNeg).toInt = (σ_20 bl tx.toNatClampNeg).toInt := congrArg Int32.toInt k_295
            have k_297 : σ_33 h0 11 = tx := (FR.at fσ_33 th0 (by decide)).trans k_23
            have k_298 : σ_205 h0 11 = tx := (FR.at fσ_205 th0 (by decide)).trans k_297
            have k_299 : σ_281 h0 11 = tx := by rw [eσ_281, up2_nej _ _ (by decide)]; exact k_298
            refine t_ci (va_runV (As := []) (rest := []) ⟨hx, hb, hml, hown, hts⟩ (cz_X12_value l D cA L T r hG hLA.1 σ_281 ρ_206 hB.2.1 _ h0 mh0 th0 bt hbt mbt tbt bg hbg mbg tbg bl hbl mbl tbl tx k_299 (by first | omega | decide) (by first | omega | decide) (by omega)) (cV hts mv_X12_value mw_6_224 rfl rfl ⟨Nat.le_of_ble_eq_true rfl, Nat.le_of_ble_eq_true rfl⟩) (pV hB.1 hK hN mh0 th0 (show shp cA 12 _ _ _ = .inr (12, Fs12 _ _ _) from rfl) rfl) rfl rfl hl.1 rfl (lv_room (Nat.le_of_ble_eq_true rfl)) dX12_term_86 ⟨Nat.le_of_ble_eq_true rfl, Nat.le_of_ble_eq_true rfl⟩) hLA hA hB hS (by decide) (fun x_302 σ_300 ρ_301 H locs hB fσ_300 pσ_300 hS => ?_)
            obtain ⟨g_303, g_304, g_305, g_306⟩ := pσ_300
            have w_307 : 0 ≤ (σ_300 bl tx.toNatClampNeg).toInt ∧ (σ_300 bl tx.toNatClampNeg).toInt ≤ 400 := by have z := hB.2.1 bl mbl tx.toNatClampNeg; rw [tbl] at z; exact z
            have w_308 : 0 ≤ (σ_300 h0 8).toInt ∧ (σ_300 h0 8).toInt ≤ 400 := by have z := hB.2.1 h0 mh0 8; rw [th0] at z; exact z
            have w_309 : 0 ≤ (σ_300 h0 12).toInt ∧ (σ_300 h0 12).toInt ≤ 60 := by have z := hB.2.1 h0 mh0 12; rw [th0] at z; exact z
            have k_310 := FR.row fσ_33 tbg (fun j => by simp)
            have k_311 := FR.row fσ_205 tbg (fun j => by simp)
            have k_312a := congrFun eσ_281 bg
            rw [up2_row _ _ (tg_ne tbg th0 (by decide))] at k_312a
            have k_313 := FR.row fσ_33 tbl (fun j => by simp)
            have k_314 := FR.row fσ_205 tbl (fun j => by simp)
            have k_315a := congrFun eσ_281 bl
            rw [up2_row _ _ (tg_ne tbl th0 (by decide))] at k_315a
            have ex_316 : EX (σ bg) (σ bl) (σ_281 bg) (σ_281 bl) tx := by rw [((k_312a).trans ((k_311).trans (k_310))), ((k_315a).trans ((k_314).trans (k_313)))]; exact g_26.1
            have ex_317 := EX.tr ex_316 g_305
            obtain ⟨lx_302, ux_302⟩ := g_303
            have k_318 : σ_300 h0 1 = (σ h0 1) := (FR.at fσ_300 th0 (by decide)).trans k_292
            have cq_319 : (σ_300 h0 1).toInt = (σ h0 1).toInt := congrArg Int32.toInt k_318
            refine lv_if_ne (tgt := 94) hx hb dX12_term_89 (by decide) (fun c_320 => ?_) (fun c_320 => ?_)
            · skip
              have uc_320 := i_ne (n := 0) (by decide) c_320
              have R_321 : RLx σ σ_300 h0 bg bl tx 2 1 := RLx.tr R_283 (g_306 (by omega))
              have R_321n := R_321.2.1
              refine lv_aload_n hx hb dX12_term_94 rfl (lv_at hl 1 rfl) ?_
              refine lv_iload_n hx hb dX12_term_95 rfl (lv_at hl 0 rfl) ?_
              refine lv_iconst (v := 0) hx hb dX12_term_96 (by decide) ?_
              have hPL5 : 0 ≤ (σ_300 bl tx.toNatClampNeg).toInt := (by omega)
              have k_322 : σ_300 h0 11 = tx := (FR.at fσ_300 th0 (by decide)).trans k_299
              refine t_cv (va_runV (As := [.int 5, .int 0]) (rest := []) ⟨hx, hb, hml, hown, hts⟩ (cz_X12_puts l D cA L T r hG hLA.1 σ_300 ρ_301 hB.2.1 _ h0 mh0 th0 5 0 bg hbg mbg tbg bl hbl mbl tbl tx k_322 (by first | omega | decide) (by first | omega | decide) (by omega)) (cV hts mv_X12_puts mw_6_233 rfl rfl ⟨Nat.le_of_ble_eq_true rfl, Nat.le_of_ble_eq_true rfl⟩) (pV hB.1 hK hN mh0 th0 (show shp cA 12 _ _ _ = .inr (12, Fs12 _ _ _) from rfl) rfl) rfl rfl hl.1 rfl (lv_room (Nat.le_of_ble_eq_true rfl)) dX12_term_97 ⟨Nat.le_of_ble_eq_true rfl, Nat.le_of_ble_eq_true rfl⟩) hLA hA hB hS (by decide) (fun σ_323 ρ_324 H locs hB fσ_323 pσ_323 hS => ?_)
              have w_326 : 0 ≤ (σ_323 bl tx.toNatClampNeg).toInt ∧ (σ_323 bl tx.toNatClampNeg).toInt ≤ 400 := by have z := hB.2.1 bl mbl tx.toNatClampNeg; rw [tbl] at z; exact z
              have k_327 : σ_323 h0 8 = (σ_300 h0 8) := (FR.at fσ_323 th0 (by decide)).trans rfl
              have cq_328 : (σ_323 h0 8).toInt = (σ_300 h0 8).toInt := congrArg Int32.toInt k_327
              have k_329 : σ_323 h0 1 = (σ h0 1) := (FR.at fσ_323 th0 (by decide)).trans k_318
              have cq_330 : (σ_323 h0 1).toInt = (σ h0 1).toInt := congrArg Int32.toInt k_329
              have k_331 : σ_323 h0 12 = (σ_300 h0 12) := (FR.at fσ_323 th0 (by decide)).trans rfl
              have cq_332 : (σ_323 h0 12).toInt = (σ_300 h0 12).toInt := congrArg Int32.toInt k_331
              have ex_333 := EX.tr ex_317 (PU.ex pσ_323 (by have z := hPL5; omega))
              have R_334 : RLx σ σ_323 h0 bg bl tx 1 0 := RLx.bin (k := 0) (s := 0) R_321 pσ_323 (by have z := hPL5; omega) (FR.at fσ_323 th0 (by decide)) (FR.at fσ_323 th0 (by decide)) (stp_bin (by decide))
              have R_334n := R_334.2.1
              refine lv_goto (tgt := 9) hx hb dX12_term_100 (by decide) ?_
              have k_335 : σ_323 h0 11 = tx := (FR.at fσ_323 th0 (by decide)).trans k_322
              exact ih_22 ⟨σ_323, ρ_324⟩ _ _ _ ⟨k_335, k_329, R_334, (by rw [k_327]; omega), hB, hS, lv_sub hl [1] rfl⟩ (by show (400 - (σ_323 h0 8).toInt).toNat < (400 - (σ_20 h0 8).toInt).toNat; rw [k_327]; omega)
            · skip
              have uc_320 := i_eq (n := 0) (by decide) c_320
              refine lv_iconst (v := 0) hx hb dX12_term_92 (by decide) ?_
              exact W.zret (v := 0) hx hb hr rfl (fun t ht hW => ⟨⟨0, (σ_300, ρ_301), rfl, ⟨hB.2.1, hB.2.2, ⟨(show 0 ≤ (0 : Int32).toInt ∧ (0 : Int32).toInt ≤ 1 from ⟨by decide, by decide⟩), (show (σ h0 8).toInt ≤ (σ_300 h0 8).toInt from (by omega)), (show EX (σ bg) (σ bl) (σ_300 bg) (σ_300 bl) tx from ex_317), (show (0 : Int32).toInt = 1 → RLx σ σ_300 h0 bg bl tx 1 0 from (fun h => absurd h (by decide)))⟩⟩, (show TP D cA L T r σ_300 ρ_301 t.heap from by rw [ht]; exact hB.1)⟩, hS.F ht⟩) hS.2.2 dX12_term_93
        · skip
          have uc_221 := i_eq (n := 42) (by decide) c_221
          refine lv_iconst (v := 4) hx hb dX12_term_50 (by decide) ?_
          refine lv_goto (tgt := 74) hx hb dX12_term_51 (by decide) ?_
          refine lv_istore_n (lv' := [(1, .int 4), (0, .ref h0)]) hx hb dX12_term_74 rfl hl (by decide) rfl (fun ls hl => ?_)
          refine lv_aload_n hx hb dX12_term_75 rfl (lv_at hl 1 rfl) ?_
          refine lv_dup hx hb dX12_term_76 rfl ?_
          refine t_gv hx hb hts hown hK hB mh0 th0 fi_12_8 rfl mw_5_224 dX12_term_77 ?_
          refine lv_iconst (v := 1) hx hb dX12_term_80 (by decide) ?_
          refine lv_iadd hx hb dX12_term_81 ?_
          refine lv_topi (fun x_336 ex_336 => ?_)
          have vx_336 := b_add (rfl : (σ_205 h0 8).toInt = _) (by decide : (1 : Int32).toInt = 1) ex_336 (by omega) (by omega)
          refine t_pi hx hb hts hown hK hLA hB hS mh0 th0 fi_12_8 rfl rfl rfl (by first | omega | (subst_vars; omega)) (by first | omega | (subst_vars; omega)) (Or.inl (by decide)) mw_5_224 dX12_term_82 (fun H locs σ_337 eσ_337 hB hS => ?_)
          have k_338 : σ_337 h0 8 = x_336 := by rw [eσ_337]; exact up2_same _ _ _ _
          refine lv_aload_n hx hb dX12_term_85 rfl (lv_at hl 1 rfl) ?_
          have k_340 := FR.row fσ_33 tbg (fun j => by simp)
          have k_341 := FR.row fσ_205 tbg (fun j => by simp)
          have k_342a := congrFun eσ_337 bg
          rw [up2_row _ _ (tg_ne tbg th0 (by decide))] at k_342a
          have k_343 := FR.row fσ_33 tbl (fun j => by simp)
          have k_344 := FR.row fσ_205 tbl (fun j => by simp)
          have k_345a := congrFun eσ_337 bl
          rw [up2_row _ _ (tg_ne tbl th0 (by decide))] at k_345a
          have k_346 : σ_337 h0 12 = (σ_20 h0 12) := by rw [eσ_337, up2_nej _ _ (by decide)]; exact k_215
          have R_339 : RLx σ σ_337 h0 bg bl tx 1 1 := RLx.fr 1 g_26 ((k_342a).trans ((k_341).trans (k_340))) ((k_345a).trans ((k_344).trans (k_343))) (by rw [k_346]; omega) (by rw [k_338]; omega)
          have R_339n := R_339.2.1
          have cq_347 : (σ_337 h0 8).toInt = x_336.toInt := congrArg Int32.toInt k_338
          have k_348 : σ_337 h0 1 = (σ h0 1) := by rw [eσ_337, up2_nej _ _ (by decide)]; exact k_213
          have cq_349 : (σ_337 h0 1).toInt = (σ h0 1).toInt := congrArg Int32.toInt k_348
          have cq_350 : (σ_337 h0 12).toInt = (σ_20 h0 12).toInt := congrArg Int32.toInt k_346
          have k_351 : σ_337 bl tx.toNatClampNeg = (σ_20 bl tx.toNatClampNeg) := by rw [eσ_337, up2_nea _ _ (tg_ne tbl th0 (by decide))]; exact k_217
          have cq_352 : (σ_337 bl tx.toNatClampNeg).toInt = (σ_20 bl tx.toNatClampNeg).toInt := congrArg Int32.toInt k_351
          have k_353 : σ_33 h0 11 = tx := (FR.at fσ_33 th0 (by decide)).trans k_23
          have k_354 : σ_205 h0 11 = tx := (FR.at fσ_205 th0 (by decide)).trans k_353
          have k_355 : σ_337 h0 11 = tx := by rw [eσ_337, up2_nej _ _ (by decide)]; exact k_354
          refine t_ci (va_runV (As := []) (rest := []) ⟨hx, hb, hml, hown, hts⟩ (cz_X12_value l D cA L T r hG hLA.1 σ_337 ρ_206 hB.2.1 _ h0 mh0 th0 bt hbt mbt tbt bg hbg mbg tbg bl hbl mbl tbl tx k_355 (by first | omega | decide) (by first | omega | decide) (by omega)) (cV hts mv_X12_value mw_6_224 rfl rfl ⟨Nat.le_of_ble_eq_true rfl, Nat.le_of_ble_eq_true rfl⟩) (pV hB.1 hK hN mh0 th0 (show shp cA 12 _ _ _ = .inr (12, Fs12 _ _ _) from rfl) rfl) rfl rfl hl.1 rfl (lv_room (Nat.le_of_ble_eq_true rfl)) dX12_term_86 ⟨Nat.le_of_ble_eq_true rfl, Nat.le_of_ble_eq_true rfl⟩) hLA hA hB hS (by decide) (fun x_358 σ_356 ρ_357 H locs hB fσ_356 pσ_356 hS => ?_)
          obtain ⟨g_359, g_360, g_361, g_362⟩ := pσ_356
          have w_363 : 0 ≤ (σ_356 bl tx.toNatClampNeg).toInt ∧ (σ_356 bl tx.toNatClampNeg).toInt ≤ 400 := by have z := hB.2.1 bl mbl tx.toNatClampNeg; rw [tbl] at z; exact z
          have w_364 : 0 ≤ (σ_356 h0 8).toInt ∧ (σ_356 h0 8).toInt ≤ 400 := by have z := hB.2.1 h0 mh0 8; rw [th0] at z; exact z
          have w_365 : 0 ≤ (σ_356 h0 12).toInt ∧ (σ_356 h0 12).toInt ≤ 60 := by have z := hB.2.1 h0 mh0 12; rw [th0] at z; exact z
          have k_366 := FR.row fσ_33 tbg (fun j => by simp)
          have k_367 := FR.row fσ_205 tbg (fun j => by simp)
          have k_368a := congrFun eσ_337 bg
          rw [up2_row _ _ (tg_ne tbg th0 (by decide))] at k_368a
          have k_369 := FR.row fσ_33 tbl (fun j => by simp)
          have k_370 := FR.row fσ_205 tbl (fun j => by simp)
          have k_371a := congrFun eσ_337 bl
          rw [up2_row _ _ (tg_ne tbl th0 (by decide))] at k_371a
          have ex_372 : EX (σ bg) (σ bl) (σ_337 bg) (σ_337 bl) tx := by rw [((k_368a).trans ((k_367).trans (k_366))), ((k_371a).trans ((k_370).trans (k_369)))]; exact g_26.1
          have ex_373 := EX.tr ex_372 g_361
          obtain ⟨lx_358, ux_358⟩ := g_359
          have k_374 : σ_356 h0 1 = (σ h0 1) := (FR.at fσ_356 th0 (by decide)).trans k_348
          have cq_375 : (σ_356 h0 1).toInt = (σ h0 1).toInt := congrArg Int32.toInt k_374
          refine lv_if_ne (tgt := 94) hx hb dX12_term_89 (by decide) (fun c_376 => ?_) (fun c_376 => ?_)
          · skip
            have uc_376 := i_ne (n := 0) (by decide) c_376
            have R_377 : RLx σ σ_356 h0 bg bl tx 2 1 := RLx.tr R_339 (g_362 (by omega))
            have R_377n := R_377.2.1
            refine lv_aload_n hx hb dX12_term_94 rfl (lv_at hl 1 rfl) ?_
            refine lv_iload_n hx hb dX12_term_95 rfl (lv_at hl 0 rfl) ?_
            refine lv_iconst (v := 0) hx hb dX12_term_96 (by decide) ?_
            have hPL5 : 0 ≤ (σ_356 bl tx.toNatClampNeg).toInt := (by omega)
            have k_378 : σ_356 h0 11 = tx := (FR.at fσ_356 th0 (by decide)).trans k_355
            refine t_cv (va_runV (As := [.int 4, .int 0]) (rest := []) ⟨hx, hb, hml, hown, hts⟩ (cz_X12_puts l D cA L T r hG hLA.1 σ_356 ρ_357 hB.2.1 _ h0 mh0 th0 4 0 bg hbg mbg tbg bl hbl mbl tbl tx k_378 (by first | omega | decide) (by first | omega | decide) (by omega)) (cV hts mv_X12_puts mw_6_233 rfl rfl ⟨Nat.le_of_ble_eq_true rfl, Nat.le_of_ble_eq_true rfl⟩) (pV hB.1 hK hN mh0 th0 (show shp cA 12 _ _ _ = .inr (12, Fs12 _ _ _) from rfl) rfl) rfl rfl hl.1 rfl (lv_room (Nat.le_of_ble_eq_true rfl)) dX12_term_97 ⟨Nat.le_of_ble_eq_true rfl, Nat.le_of_ble_eq_true rfl⟩) hLA hA hB hS (by decide) (fun σ_379 ρ_380 H locs hB fσ_379 pσ_379 hS => ?_)
            have w_382 : 0 ≤ (σ_379 bl tx.toNatClampNeg).toInt ∧ (σ_379 bl tx.toNatClampNeg).toInt ≤ 400 := by have z := hB.2.1 bl mbl tx.toNatClampNeg; rw [tbl] at z; exact z
            have k_383 : σ_379 h0 8 = (σ_356 h0 8) := (FR.at fσ_379 th0 (by decide)).trans rfl
            have cq_384 : (σ_379 h0 8).toInt = (σ_356 h0 8).toInt := congrArg Int32.toInt k_383
            have k_385 : σ_379 h0 1 = (σ h0 1) := (FR.at fσ_379 th0 (by decide)).trans k_374
            have cq_386 : (σ_379 h0 1).toInt = (σ h0 1).toInt := congrArg Int32.toInt k_385
            have k_387 : σ_379 h0 12 = (σ_356 h0 12) := (FR.at fσ_379 th0 (by decide)).trans rfl
            have cq_388 : (σ_379 h0 12).toInt = (σ_356 h0 12).toInt := congrArg Int32.toInt k_387
            have ex_389 := EX.tr ex_373 (PU.ex pσ_379 (by have z := hPL5; omega))
            have R_390 : RLx σ σ_379 h0 bg bl tx 1 0 := RLx.bin (k := 0) (s := 0) R_377 pσ_379 (by have z := hPL5; omega) (FR.at fσ_379 th0 (by decide)) (FR.at fσ_379 th0 (by decide)) (stp_bin (by decide))
            have R_390n := R_390.2.1
            refine lv_goto (tgt := 9) hx hb dX12_term_100 (by decide) ?_
            have k_391 : σ_379 h0 11 = tx := (FR.at fσ_379 th0 (by decide)).trans k_378
            exact ih_22 ⟨σ_379, ρ_380⟩ _ _ _ ⟨k_391, k_385, R_390, (by rw [k_383]; omega), hB, hS, lv_sub hl [1] rfl⟩ (by show (400 - (σ_379 h0 8).toInt).toNat < (400 - (σ_20 h0 8).toInt).toNat; rw [k_383]; omega)
          · skip
            have uc_376 := i_eq (n := 0) (by decide) c_376
            refine lv_iconst (v := 0) hx hb dX12_term_92 (by decide) ?_
            exact W.zret (v := 0) hx hb hr rfl (fun t ht hW => ⟨⟨0, (σ_356, ρ_357), rfl, ⟨hB.2.1, hB.2.2, ⟨(show 0 ≤ (0 : Int32).toInt ∧ (0 : Int32).toInt ≤ 1 from ⟨by decide, by decide⟩), (show (σ h0 8).toInt ≤ (σ_356 h0 8).toInt from (by omega)), (show EX (σ bg) (σ bl) (σ_356 bg) (σ_356 bl) tx from ex_373), (show (0 : Int32).toInt = 1 → RLx σ σ_356 h0 bg bl tx 1 0 from (fun h => absurd h (by decide)))⟩⟩, (show TP D cA L T r σ_356 ρ_357 t.heap from by rw [ht]; exact hB.1)⟩, hS.F ht⟩) hS.2.2 dX12_term_93
      · skip
        have uc_219 := i_ne (n := 47) (by decide) c_219
        refine lv_aload_n hx hb dX12_term_27 rfl (lv_at hl 0 rfl) ?_
        refine t_ci (va_runV (As := []) (rest := []) ⟨hx, hb, hml, hown, hts⟩ (cz_X12_see l D cA L T r hG hLA.1 σ_205 ρ_206 hB.2.1 _ h0 mh0 th0 bt hbt mbt tbt) (cV hts mv_X12_see mw_6_134 rfl rfl ⟨Nat.le_of_ble_eq_true rfl, Nat.le_of_ble_eq_true rfl⟩) (pV hB.1 hK hN mh0 th0 (show shp cA 12 _ _ _ = .inr (12, Fs12 _ _ _) from rfl) rfl) rfl rfl hl.1 rfl (lv_room (Nat.le_of_ble_eq_true rfl)) dX12_term_28 ⟨Nat.le_of_ble_eq_true rfl, Nat.le_of_ble_eq_true rfl⟩) hLA hA hB hS (by decide) (fun x_394 σ_392 ρ_393 H locs hB fσ_392 pσ_392 hS => ?_)
        obtain ⟨g_395, g_396, g_397, g_398⟩ := pσ_392
        have w_399 : 0 ≤ (σ_392 h0 8).toInt ∧ (σ_392 h0 8).toInt ≤ 400 := by have z := hB.2.1 h0 mh0 8; rw [th0] at z; exact z
        obtain ⟨lx_394, ux_394⟩ := g_395
        have k_400 : σ_392 h0 1 = (σ h0 1) := (FR.at fσ_392 th0 (by decide)).trans k_213
        have cq_401 : (σ_392 h0 1).toInt = (σ h0 1).toInt := congrArg Int32.toInt k_400
        have k_402 : σ_392 h0 12 = (σ_20 h0 12) := (FR.at fσ_392 th0 (by decide)).trans k_215
        have cq_403 : (σ_392 h0 12).toInt = (σ_20 h0 12).toInt := congrArg Int32.toInt k_402
        have k_404 : σ_392 bl tx.toNatClampNeg = (σ_20 bl tx.toNatClampNeg) := (FR.at fσ_392 tbl (by simp)).trans k_217
        have cq_405 : (σ_392 bl tx.toNatClampNeg).toInt = (σ_20 bl tx.toNatClampNeg).toInt := congrArg Int32.toInt k_404
        refine lv_bipush (v := 37) hx hb dX12_term_31 (by decide) ?_
        refine lv_icmp_ne (tgt := 103) hx hb dX12_term_33 (by decide) (fun c_406 => ?_) (fun c_406 => ?_)
        · skip
          have uc_406 := i_ne (n := 37) (by decide) c_406
          refine lv_iconst (v := 1) hx hb dX12_term_103 (by decide) ?_
          have k_407 := FR.row fσ_33 tbg (fun j => by simp)
          have k_408 := FR.row fσ_205 tbg (fun j => by simp)
          have k_409 := FR.row fσ_392 tbg (fun j => by simp)
          have k_410 := FR.row fσ_33 tbl (fun j => by simp)
          have k_411 := FR.row fσ_205 tbl (fun j => by simp)
          have k_412 := FR.row fσ_392 tbl (fun j => by simp)
          have ex_413 : EX (σ bg) (σ bl) (σ_392 bg) (σ_392 bl) tx := by rw [((k_409).trans ((k_408).trans (k_407))), ((k_412).trans ((k_411).trans (k_410)))]; exact g_26.1
          have k_415 := FR.row fσ_33 tbg (fun j => by simp)
          have k_416 := FR.row fσ_205 tbg (fun j => by simp)
          have k_417 := FR.row fσ_392 tbg (fun j => by simp)
          have k_418 := FR.row fσ_33 tbl (fun j => by simp)
          have k_419 := FR.row fσ_205 tbl (fun j => by simp)
          have k_420 := FR.row fσ_392 tbl (fun j => by simp)
          have R_414 : RLx σ σ_392 h0 bg bl tx 1 0 := RLx.fr 0 g_26 ((k_417).trans ((k_416).trans (k_415))) ((k_420).trans ((k_419).trans (k_418))) (by rw [k_402]; omega) (by omega)
          have R_414n := R_414.2.1
          exact W.zret (v := 1) hx hb hr rfl (fun t ht hW => ⟨⟨1, (σ_392, ρ_393), rfl, ⟨hB.2.1, hB.2.2, ⟨(show 0 ≤ (1 : Int32).toInt ∧ (1 : Int32).toInt ≤ 1 from ⟨by decide, by decide⟩), (show (σ h0 8).toInt ≤ (σ_392 h0 8).toInt from (by omega)), (show EX (σ bg) (σ bl) (σ_392 bg) (σ_392 bl) tx from ex_413), (show (1 : Int32).toInt = 1 → RLx σ σ_392 h0 bg bl tx 1 0 from (fun h => R_414))⟩⟩, (show TP D cA L T r σ_392 ρ_393 t.heap from by rw [ht]; exact hB.1)⟩, hS.F ht⟩) hS.2.2 dX12_term_104
        · skip
          have uc_406 := i_eq (n := 37) (by decide) c_406
          refine lv_aload_n hx hb dX12_term_36 rfl (lv_at hl 0 rfl) ?_
          refine t_gk hx hb hts hown hK hB mh0 th0 fq_12_0 hbt mw_5_216 dX12_term_37 ?_
          refine lv_aload_n hx hb dX12_term_40 rfl (lv_at hl 0 rfl) ?_
          refine t_gv hx hb hts hown hK hB mh0 th0 fi_12_8 rfl mw_5_224 dX12_term_41 ?_
          refine t_ab hx hb hK hB mbt tbt ai_61 (fun _ => rfl) (i_in (by omega) (by omega)) dX12_term_44 (fun x_421 ex_421 lx_421 ux_421 => ?_)
          have cx_421 := congrArg Int32.toInt ex_421
          refine lv_bipush (v := 42) hx hb dX12_term_45 (by decide) ?_
          refine lv_icmp_ne (tgt := 54) hx hb dX12_term_47 (by decide) (fun c_422 => ?_) (fun c_422 => ?_)
          · skip
            have uc_422 := i_ne (n := 42) (by decide) c_422
            refine lv_aload_n hx hb dX12_term_54 rfl (lv_at hl 0 rfl) ?_
            refine t_gk hx hb hts hown hK hB mh0 th0 fq_12_0 hbt mw_5_216 dX12_term_55 ?_
            refine lv_aload_n hx hb dX12_term_58 rfl (lv_at hl 0 rfl) ?_
            refine t_gv hx hb hts hown hK hB mh0 th0 fi_12_8 rfl mw_5_224 dX12_term_59 ?_
            refine t_ab hx hb hK hB mbt tbt ai_61 (fun _ => rfl) (i_in (by omega) (by omega)) dX12_term_62 (fun x_423 ex_423 lx_423 ux_423 => ?_)
            have qx_423 : x_423 = x_421 := ex_423.trans ex_421.symm
            have qx_423 := qx_423.symm
            subst qx_423
            refine lv_bipush (v := 47) hx hb dX12_term_63 (by decide) ?_
            refine lv_icmp_ne (tgt := 72) hx hb dX12_term_65 (by decide) (fun c_424 => ?_) (fun c_424 => ?_)
            · skip
              have uc_424 := i_ne (n := 47) (by decide) c_424
              refine lv_bipush (v := 14) hx hb dX12_term_72 (by decide) ?_
              refine lv_istore_n (lv' := [(1, .int 14), (0, .ref h0)]) hx hb dX12_term_74 rfl hl (by decide) rfl (fun ls hl => ?_)
              refine lv_aload_n hx hb dX12_term_75 rfl (lv_at hl 1 rfl) ?_
              refine lv_dup hx hb dX12_term_76 rfl ?_
              refine t_gv hx hb hts hown hK hB mh0 th0 fi_12_8 rfl mw_5_224 dX12_term_77 ?_
              refine lv_iconst (v := 1) hx hb dX12_term_80 (by decide) ?_
              refine lv_iadd hx hb dX12_term_81 ?_
              refine lv_topi (fun x_425 ex_425 => ?_)
              have vx_425 := b_add (rfl : (σ_392 h0 8).toInt = _) (by decide : (1 : Int32).toInt = 1) ex_425 (by omega) (by omega)
              refine t_pi hx hb hts hown hK hLA hB hS mh0 th0 fi_12_8 rfl rfl rfl (by first | omega | (subst_vars; omega)) (by first | omega | (subst_vars; omega)) (Or.inl (by decide)) mw_5_224 dX12_term_82 (fun H locs σ_426 eσ_426 hB hS => ?_)
              have k_427 : σ_426 h0 8 = x_425 := by rw [eσ_426]; exact up2_same _ _ _ _
              refine lv_aload_n hx hb dX12_term_85 rfl (lv_at hl 1 rfl) ?_
              have k_429 := FR.row fσ_33 tbg (fun j => by simp)
              have k_430 := FR.row fσ_205 tbg (fun j => by simp)
              have k_431 := FR.row fσ_392 tbg (fun j => by simp)
              have k_432a := congrFun eσ_426 bg
              rw [up2_row _ _ (tg_ne tbg th0 (by decide))] at k_432a
              have k_433 := FR.row fσ_33 tbl (fun j => by simp)
              have k_434 := FR.row fσ_205 tbl (fun j => by simp)
              have k_435 := FR.row fσ_392 tbl (fun j => by simp)
              have k_436a := congrFun eσ_426 bl
              rw [up2_row _ _ (tg_ne tbl th0 (by decide))] at k_436a
              have k_437 : σ_426 h0 12 = (σ_20 h0 12) := by rw [eσ_426, up2_nej _ _ (by decide)]; exact k_402
              have R_428 : RLx σ σ_426 h0 bg bl tx 1 1 := RLx.fr 1 g_26 ((k_432a).trans ((k_431).trans ((k_430).trans (k_429)))) ((k_436a).trans ((k_435).trans ((k_434).trans (k_433)))) (by rw [k_437]; omega) (by rw [k_427]; omega)
              have R_428n := R_428.2.1
              have cq_438 : (σ_426 h0 8).toInt = x_425.toInt := congrArg Int32.toInt k_427
              have k_439 : σ_426 h0 1 = (σ h0 1) := by rw [eσ_426, up2_nej _ _ (by decide)]; exact k_400
              have cq_440 : (σ_426 h0 1).toInt = (σ h0 1).toInt := congrArg Int32.toInt k_439
              have cq_441 : (σ_426 h0 12).toInt = (σ_20 h0 12).toInt := congrArg Int32.toInt k_437
              have k_442 : σ_426 bl tx.toNatClampNeg = (σ_20 bl tx.toNatClampNeg) := by rw [eσ_426, up2_nea _ _ (tg_ne tbl th0 (by decide))]; exact k_404
              have cq_443 : (σ_426 bl tx.toNatClampNeg).toInt = (σ_20 bl tx.toNatClampNeg).toInt := congrArg Int32.toInt k_442
              have k_444 : σ_33 h0 11 = tx := (FR.at fσ_33 th0 (by decide)).trans k_23
              have k_445 : σ_205 h0 11 = tx := (FR.at fσ_205 th0 (by decide)).trans k_444
              have k_446 : σ_392 h0 11 = tx := (FR.at fσ_392 th0 (by decide)).trans k_445
              have k_447 : σ_426 h0 11 = tx := by rw [eσ_426, up2_nej _ _ (by decide)]; exact k_446
              refine t_ci (va_runV (As := []) (rest := []) ⟨hx, hb, hml, hown, hts⟩ (cz_X12_value l D cA L T r hG hLA.1 σ_426 ρ_393 hB.2.1 _ h0 mh0 th0 bt hbt mbt tbt bg hbg mbg tbg bl hbl mbl tbl tx k_447 (by first | omega | decide) (by first | omega | decide) (by omega)) (cV hts mv_X12_value mw_6_224 rfl rfl ⟨Nat.le_of_ble_eq_true rfl, Nat.le_of_ble_eq_true rfl⟩) (pV hB.1 hK hN mh0 th0 (show shp cA 12 _ _ _ = .inr (12, Fs12 _ _ _) from rfl) rfl) rfl rfl hl.1 rfl (lv_room (Nat.le_of_ble_eq_true rfl)) dX12_term_86 ⟨Nat.le_of_ble_eq_true rfl, Nat.le_of_ble_eq_true rfl⟩) hLA hA hB hS (by decide) (fun x_450 σ_448 ρ_449 H locs hB fσ_448 pσ_448 hS => ?_)
              obtain ⟨g_451, g_452, g_453, g_454⟩ := pσ_448
              have w_455 : 0 ≤ (σ_448 bl tx.toNatClampNeg).toInt ∧ (σ_448 bl tx.toNatClampNeg).toInt ≤ 400 := by have z := hB.2.1 bl mbl tx.toNatClampNeg; rw [tbl] at z; exact z
              have w_456 : 0 ≤ (σ_448 h0 8).toInt ∧ (σ_448 h0 8).toInt ≤ 400 := by have z := hB.2.1 h0 mh0 8; rw [th0] at z; exact z
              have w_457 : 0 ≤ (σ_448 h0 12).toInt ∧ (σ_448 h0 12).toInt ≤ 60 := by have z := hB.2.1 h0 mh0 12; rw [th0] at z; exact z
              have k_458 := FR.row fσ_33 tbg (fun j => by simp)
              have k_459 := FR.row fσ_205 tbg (fun j => by simp)
              have k_460 := FR.row fσ_392 tbg (fun j => by simp)
              have k_461a := congrFun eσ_426 bg
              rw [up2_row _ _ (tg_ne tbg th0 (by decide))] at k_461a
              have k_462 := FR.row fσ_33 tbl (fun j => by simp)
              have k_463 := FR.row fσ_205 tbl (fun j => by simp)
              have k_464 := FR.row fσ_392 tbl (fun j => by simp)
              have k_465a := congrFun eσ_426 bl
              rw [up2_row _ _ (tg_ne tbl th0 (by decide))] at k_465a
              have ex_466 : EX (σ bg) (σ bl) (σ_426 bg) (σ_426 bl) tx := by rw [((k_461a).trans ((k_460).trans ((k_459).trans (k_458)))), ((k_465a).trans ((k_464).trans ((k_463).trans (k_462))))]; exact g_26.1
              have ex_467 := EX.tr ex_466 g_453
              obtain ⟨lx_450, ux_450⟩ := g_451
              have k_468 : σ_448 h0 1 = (σ h0 1) := (FR.at fσ_448 th0 (by decide)).trans k_439
              have cq_469 : (σ_448 h0 1).toInt = (σ h0 1).toInt := congrArg Int32.toInt k_468
              refine lv_if_ne (tgt := 94) hx hb dX12_term_89 (by decide) (fun c_470 => ?_) (fun c_470 => ?_)
              · skip
                have uc_470 := i_ne (n := 0) (by decide) c_470
                have R_471 : RLx σ σ_448 h0 bg bl tx 2 1 := RLx.tr R_428 (g_454 (by omega))
                have R_471n := R_471.2.1
                refine lv_aload_n hx hb dX12_term_94 rfl (lv_at hl 1 rfl) ?_
                refine lv_iload_n hx hb dX12_term_95 rfl (lv_at hl 0 rfl) ?_
                refine lv_iconst (v := 0) hx hb dX12_term_96 (by decide) ?_
                have hPL6 : 0 ≤ (σ_448 bl tx.toNatClampNeg).toInt := (by omega)
                have k_472 : σ_448 h0 11 = tx := (FR.at fσ_448 th0 (by decide)).trans k_447
                refine t_cv (va_runV (As := [.int 14, .int 0]) (rest := []) ⟨hx, hb, hml, hown, hts⟩ (cz_X12_puts l D cA L T r hG hLA.1 σ_448 ρ_449 hB.2.1 _ h0 mh0 th0 14 0 bg hbg mbg tbg bl hbl mbl tbl tx k_472 (by first | omega | decide) (by first | omega | decide) (by omega)) (cV hts mv_X12_puts mw_6_233 rfl rfl ⟨Nat.le_of_ble_eq_true rfl, Nat.le_of_ble_eq_true rfl⟩) (pV hB.1 hK hN mh0 th0 (show shp cA 12 _ _ _ = .inr (12, Fs12 _ _ _) from rfl) rfl) rfl rfl hl.1 rfl (lv_room (Nat.le_of_ble_eq_true rfl)) dX12_term_97 ⟨Nat.le_of_ble_eq_true rfl, Nat.le_of_ble_eq_true rfl⟩) hLA hA hB hS (by decide) (fun σ_473 ρ_474 H locs hB fσ_473 pσ_473 hS => ?_)
                have w_476 : 0 ≤ (σ_473 bl tx.toNatClampNeg).toInt ∧ (σ_473 bl tx.toNatClampNeg).toInt ≤ 400 := by have z := hB.2.1 bl mbl tx.toNatClampNeg; rw [tbl] at z; exact z
                have k_477 : σ_473 h0 8 = (σ_448 h0 8) := (FR.at fσ_473 th0 (by decide)).trans rfl
                have cq_478 : (σ_473 h0 8).toInt = (σ_448 h0 8).toInt := congrArg Int32.toInt k_477
                have k_479 : σ_473 h0 1 = (σ h0 1) := (FR.at fσ_473 th0 (by decide)).trans k_468
                have cq_480 : (σ_473 h0 1).toInt = (σ h0 1).toInt := congrArg Int32.toInt k_479
                have k_481 : σ_473 h0 12 = (σ_448 h0 12) := (FR.at fσ_473 th0 (by decide)).trans rfl
                have cq_482 : (σ_473 h0 12).toInt = (σ_448 h0 12).toInt := congrArg Int32.toInt k_481
                have ex_483 := EX.tr ex_467 (PU.ex pσ_473 (by have z := hPL6; omega))
                have R_484 : RLx σ σ_473 h0 bg bl tx 1 0 := RLx.bin (k := 0) (s := 0) R_471 pσ_473 (by have z := hPL6; omega) (FR.at fσ_473 th0 (by decide)) (FR.at fσ_473 th0 (by decide)) (stp_bin (by decide))
                have R_484n := R_484.2.1
                refine lv_goto (tgt := 9) hx hb dX12_term_100 (by decide) ?_
                have k_485 : σ_473 h0 11 = tx := (FR.at fσ_473 th0 (by decide)).trans k_472
                exact ih_22 ⟨σ_473, ρ_474⟩ _ _ _ ⟨k_485, k_479, R_484, (by rw [k_477]; omega), hB, hS, lv_sub hl [1] rfl⟩ (by show (400 - (σ_473 h0 8).toInt).toNat < (400 - (σ_20 h0 8).toInt).toNat; rw [k_477]; omega)
              · skip
                have uc_470 := i_eq (n := 0) (by decide) c_470
                refine lv_iconst (v := 0) hx hb dX12_term_92 (by decide) ?_
                exact W.zret (v := 0) hx hb hr rfl (fun t ht hW => ⟨⟨0, (σ_448, ρ_449), rfl, ⟨hB.2.1, hB.2.2, ⟨(show 0 ≤ (0 : Int32).toInt ∧ (0 : Int32).toInt ≤ 1 from ⟨by decide, by decide⟩), (show (σ h0 8).toInt ≤ (σ_448 h0 8).toInt from (by omega)), (show EX (σ bg) (σ bl) (σ_448 bg) (σ_448 bl) tx from ex_467), (show (0 : Int32).toInt = 1 → RLx σ σ_448 h0 bg bl tx 1 0 from (fun h => absurd h (by decide)))⟩⟩, (show TP D cA L T r σ_448 ρ_449 t.heap from by rw [ht]; exact hB.1)⟩, hS.F ht⟩) hS.2.2 dX12_term_93
            · skip
              have uc_424 := i_eq (n := 47) (by decide) c_424
              refine lv_iconst (v := 5) hx hb dX12_term_68 (by decide) ?_
              refine lv_goto (tgt := 74) hx hb dX12_term_69 (by decide) ?_
              refine lv_istore_n (lv' := [(1, .int 5), (0, .ref h0)]) hx hb dX12_term_74 rfl hl (by decide) rfl (fun ls hl => ?_)
              refine lv_aload_n hx hb dX12_term_75 rfl (lv_at hl 1 rfl) ?_
              refine lv_dup hx hb dX12_term_76 rfl ?_
              refine t_gv hx hb hts hown hK hB mh0 th0 fi_12_8 rfl mw_5_224 dX12_term_77 ?_
              refine lv_iconst (v := 1) hx hb dX12_term_80 (by decide) ?_
              refine lv_iadd hx hb dX12_term_81 ?_
              refine lv_topi (fun x_486 ex_486 => ?_)
              have vx_486 := b_add (rfl : (σ_392 h0 8).toInt = _) (by decide : (1 : Int32).toInt = 1) ex_486 (by omega) (by omega)
              refine t_pi hx hb hts hown hK hLA hB hS mh0 th0 fi_12_8 rfl rfl rfl (by first | omega | (subst_vars; omega)) (by first | omega | (subst_vars; omega)) (Or.inl (by decide)) mw_5_224 dX12_term_82 (fun H locs σ_487 eσ_487 hB hS => ?_)
              have k_488 : σ_487 h0 8 = x_486 := by rw [eσ_487]; exact up2_same _ _ _ _
              refine lv_aload_n hx hb dX12_term_85 rfl (lv_at hl 1 rfl) ?_
              have k_490 := FR.row fσ_33 tbg (fun j => by simp)
              have k_491 := FR.row fσ_205 tbg (fun j => by simp)
              have k_492 := FR.row fσ_392 tbg (fun j => by simp)
              have k_493a := congrFun eσ_487 bg
              rw [up2_row _ _ (tg_ne tbg th0 (by decide))] at k_493a
              have k_494 := FR.row fσ_33 tbl (fun j => by simp)
              have k_495 := FR.row fσ_205 tbl (fun j => by simp)
              have k_496 := FR.row fσ_392 tbl (fun j => by simp)
              have k_497a := congrFun eσ_487 bl
              rw [up2_row _ _ (tg_ne tbl th0 (by decide))] at k_497a
              have k_498 : σ_487 h0 12 = (σ_20 h0 12) := by rw [eσ_487, up2_nej _ _ (by decide)]; exact k_402
              have R_489 : RLx σ σ_487 h0 bg bl tx 1 1 := RLx.fr 1 g_26 ((k_493a).trans ((k_492).trans ((k_491).trans (k_490)))) ((k_497a).trans ((k_496).trans ((k_495).trans (k_494)))) (by rw [k_498]; omega) (by rw [k_488]; omega)
              have R_489n := R_489.2.1
              have cq_499 : (σ_487 h0 8).toInt = x_486.toInt := congrArg Int32.toInt k_488
              have k_500 : σ_487 h0 1 = (σ h0 1) := by rw [eσ_487, up2_nej _ _ (by decide)]; exact k_400
              have cq_501 : (σ_487 h0 1).toInt = (σ h0 1).toInt := congrArg Int32.toInt k_500
              have cq_502 : (σ_487 h0 12).toInt = (σ_20 h0 12).toInt := congrArg Int32.toInt k_498
              have k_503 : σ_487 bl tx.toNatClampNeg = (σ_20 bl tx.toNatClampNeg) := by rw [eσ_487, up2_nea _ _ (tg_ne tbl th0 (by decide))]; exact k_404
              have cq_504 : (σ_487 bl tx.toNatClampNeg).toInt = (σ_20 bl tx.toNatClampNeg).toInt := congrArg Int32.toInt k_503
              have k_505 : σ_33 h0 11 = tx := (FR.at fσ_33 th0 (by decide)).trans k_23
              have k_506 : σ_205 h0 11 = tx := (FR.at fσ_205 th0 (by decide)).trans k_505
              have k_507 : σ_392 h0 11 = tx := (FR.at fσ_392 th0 (by decide)).trans k_506
              have k_508 : σ_487 h0 11 = tx := by rw [eσ_487, up2_nej _ _ (by decide)]; exact k_507
              refine t_ci (va_runV (As := []) (rest := []) ⟨hx, hb, hml, hown, hts⟩ (cz_X12_value l D cA L T r hG hLA.1 σ_487 ρ_393 hB.2.1 _ h0 mh0 th0 bt hbt mbt tbt bg hbg mbg tbg bl hbl mbl tbl tx k_508 (by first | omega | decide) (by first | omega | decide) (by omega)) (cV hts mv_X12_value mw_6_224 rfl rfl ⟨Nat.le_of_ble_eq_true rfl, Nat.le_of_ble_eq_true rfl⟩) (pV hB.1 hK hN mh0 th0 (show shp cA 12 _ _ _ = .inr (12, Fs12 _ _ _) from rfl) rfl) rfl rfl hl.1 rfl (lv_room (Nat.le_of_ble_eq_true rfl)) dX12_term_86 ⟨Nat.le_of_ble_eq_true rfl, Nat.le_of_ble_eq_true rfl⟩) hLA hA hB hS (by decide) (fun x_511 σ_509 ρ_510 H locs hB fσ_509 pσ_509 hS => ?_)
              obtain ⟨g_512, g_513, g_514, g_515⟩ := pσ_509
              have w_516 : 0 ≤ (σ_509 bl tx.toNatClampNeg).toInt ∧ (σ_509 bl tx.toNatClampNeg).toInt ≤ 400 := by have z := hB.2.1 bl mbl tx.toNatClampNeg; rw [tbl] at z; exact z
              have w_517 : 0 ≤ (σ_509 h0 8).toInt ∧ (σ_509 h0 8).toInt ≤ 400 := by have z := hB.2.1 h0 mh0 8; rw [th0] at z; exact z
              have w_518 : 0 ≤ (σ_509 h0 12).toInt ∧ (σ_509 h0 12).toInt ≤ 60 := by have z := hB.2.1 h0 mh0 12; rw [th0] at z; exact z
              have k_519 := FR.row fσ_33 tbg (fun j => by simp)
              have k_520 := FR.row fσ_205 tbg (fun j => by simp)
              have k_521 := FR.row fσ_392 tbg (fun j => by simp)
              have k_522a := congrFun eσ_487 bg
              rw [up2_row _ _ (tg_ne tbg th0 (by decide))] at k_522a
              have k_523 := FR.row fσ_33 tbl (fun j => by simp)
              have k_524 := FR.row fσ_205 tbl (fun j => by simp)
              have k_525 := FR.row fσ_392 tbl (fun j => by simp)
              have k_526a := congrFun eσ_487 bl
              rw [up2_row _ _ (tg_ne tbl th0 (by decide))] at k_526a
              have ex_527 : EX (σ bg) (σ bl) (σ_487 bg) (σ_487 bl) tx := by rw [((k_522a).trans ((k_521).trans ((k_520).trans (k_519)))), ((k_526a).trans ((k_525).trans ((k_524).trans (k_523))))]; exact g_26.1
              have ex_528 := EX.tr ex_527 g_514
              obtain ⟨lx_511, ux_511⟩ := g_512
              have k_529 : σ_509 h0 1 = (σ h0 1) := (FR.at fσ_509 th0 (by decide)).trans k_500
              have cq_530 : (σ_509 h0 1).toInt = (σ h0 1).toInt := congrArg Int32.toInt k_529
              refine lv_if_ne (tgt := 94) hx hb dX12_term_89 (by decide) (fun c_531 => ?_) (fun c_531 => ?_)
              · skip
                have uc_531 := i_ne (n := 0) (by decide) c_531
                have R_532 : RLx σ σ_509 h0 bg bl tx 2 1 := RLx.tr R_489 (g_515 (by omega))
                have R_532n := R_532.2.1
                refine lv_aload_n hx hb dX12_term_94 rfl (lv_at hl 1 rfl) ?_
                refine lv_iload_n hx hb dX12_term_95 rfl (lv_at hl 0 rfl) ?_
                refine lv_iconst (v := 0) hx hb dX12_term_96 (by decide) ?_
                have hPL6 : 0 ≤ (σ_509 bl tx.toNatClampNeg).toInt := (by omega)
                have k_533 : σ_509 h0 11 = tx := (FR.at fσ_509 th0 (by decide)).trans k_508
                refine t_cv (va_runV (As := [.int 5, .int 0]) (rest := []) ⟨hx, hb, hml, hown, hts⟩ (cz_X12_puts l D cA L T r hG hLA.1 σ_509 ρ_510 hB.2.1 _ h0 mh0 th0 5 0 bg hbg mbg tbg bl hbl mbl tbl tx k_533 (by first | omega | decide) (by first | omega | decide) (by omega)) (cV hts mv_X12_puts mw_6_233 rfl rfl ⟨Nat.le_of_ble_eq_true rfl, Nat.le_of_ble_eq_true rfl⟩) (pV hB.1 hK hN mh0 th0 (show shp cA 12 _ _ _ = .inr (12, Fs12 _ _ _) from rfl) rfl) rfl rfl hl.1 rfl (lv_room (Nat.le_of_ble_eq_true rfl)) dX12_term_97 ⟨Nat.le_of_ble_eq_true rfl, Nat.le_of_ble_eq_true rfl⟩) hLA hA hB hS (by decide) (fun σ_534 ρ_535 H locs hB fσ_534 pσ_534 hS => ?_)
                have w_537 : 0 ≤ (σ_534 bl tx.toNatClampNeg).toInt ∧ (σ_534 bl tx.toNatClampNeg).toInt ≤ 400 := by have z := hB.2.1 bl mbl tx.toNatClampNeg; rw [tbl] at z; exact z
                have k_538 : σ_534 h0 8 = (σ_509 h0 8) := (FR.at fσ_534 th0 (by decide)).trans rfl
                have cq_539 : (σ_534 h0 8).toInt = (σ_509 h0 8).toInt := congrArg Int32.toInt k_538
                have k_540 : σ_534 h0 1 = (σ h0 1) := (FR.at fσ_534 th0 (by decide)).trans k_529
                have cq_541 : (σ_534 h0 1).toInt = (σ h0 1).toInt := congrArg Int32.toInt k_540
                have k_542 : σ_534 h0 12 = (σ_509 h0 12) := (FR.at fσ_534 th0 (by decide)).trans rfl
                have cq_543 : (σ_534 h0 12).toInt = (σ_509 h0 12).toInt := congrArg Int32.toInt k_542
                have ex_544 := EX.tr ex_528 (PU.ex pσ_534 (by have z := hPL6; omega))
                have R_545 : RLx σ σ_534 h0 bg bl tx 1 0 := RLx.bin (k := 0) (s := 0) R_532 pσ_534 (by have z := hPL6; omega) (FR.at fσ_534 th0 (by decide)) (FR.at fσ_534 th0 (by decide)) (stp_bin (by decide))
                have R_545n := R_545.2.1
                refine lv_goto (tgt := 9) hx hb dX12_term_100 (by decide) ?_
                have k_546 : σ_534 h0 11 = tx := (FR.at fσ_534 th0 (by decide)).trans k_533
                exact ih_22 ⟨σ_534, ρ_535⟩ _ _ _ ⟨k_546, k_540, R_545, (by rw [k_538]; omega), hB, hS, lv_sub hl [1] rfl⟩ (by show (400 - (σ_534 h0 8).toInt).toNat < (400 - (σ_20 h0 8).toInt).toNat; rw [k_538]; omega)
              · skip
                have uc_531 := i_eq (n := 0) (by decide) c_531
                refine lv_iconst (v := 0) hx hb dX12_term_92 (by decide) ?_
                exact W.zret (v := 0) hx hb hr rfl (fun t ht hW => ⟨⟨0, (σ_509, ρ_510), rfl, ⟨hB.2.1, hB.2.2, ⟨(show 0 ≤ (0 : Int32).toInt ∧ (0 : Int32).toInt ≤ 1 from ⟨by decide, by decide⟩), (show (σ h0 8).toInt ≤ (σ_509 h0 8).toInt from (by omega)), (show EX (σ bg) (σ bl) (σ_509 bg) (σ_509 bl) tx from ex_528), (show (0 : Int32).toInt = 1 → RLx σ σ_509 h0 bg bl tx 1 0 from (fun h => absurd h (by decide)))⟩⟩, (show TP D cA L T r σ_509 ρ_510 t.heap from by rw [ht]; exact hB.1)⟩, hS.F ht⟩) hS.2.2 dX12_term_93
          · skip
            have uc_422 := i_eq (n := 42) (by decide) c_422
            refine lv_iconst (v := 4) hx hb dX12_term_50 (by decide) ?_
            refine lv_goto (tgt := 74) hx hb dX12_term_51 (by decide) ?_
            refine lv_istore_n (lv' := [(1, .int 4), (0, .ref h0)]) hx hb dX12_term_74 rfl hl (by decide) rfl (fun ls hl => ?_)
            refine lv_aload_n hx hb dX12_term_75 rfl (lv_at hl 1 rfl) ?_
            refine lv_dup hx hb dX12_term_76 rfl ?_
            refine t_gv hx hb hts hown hK hB mh0 th0 fi_12_8 rfl mw_5_224 dX12_term_77 ?_
            refine lv_iconst (v := 1) hx hb dX12_term_80 (by decide) ?_
            refine lv_iadd hx hb dX12_term_81 ?_
            refine lv_topi (fun x_547 ex_547 => ?_)
            have vx_547 := b_add (rfl : (σ_392 h0 8).toInt = _) (by decide : (1 : Int32).toInt = 1) ex_547 (by omega) (by omega)
            refine t_pi hx hb hts hown hK hLA hB hS mh0 th0 fi_12_8 rfl rfl rfl (by first | omega | (subst_vars; omega)) (by first | omega | (subst_vars; omega)) (Or.inl (by decide)) mw_5_224 dX12_term_82 (fun H locs σ_548 eσ_548 hB hS => ?_)
            have k_549 : σ_548 h0 8 = x_547 := by rw [eσ_548]; exact up2_same _ _ _ _
            refine lv_aload_n hx hb dX12_term_85 rfl (lv_at hl 1 rfl) ?_
            have k_551 := FR.row fσ_33 tbg (fun j => by simp)
            have k_552 := FR.row fσ_205 tbg (fun j => by simp)
            have k_553 := FR.row fσ_392 tbg (fun j => by simp)
            have k_554a := congrFun eσ_548 bg
            rw [up2_row _ _ (tg_ne tbg th0 (by decide))] at k_554a
            have k_555 := FR.row fσ_33 tbl (fun j => by simp)
            have k_556 := FR.row fσ_205 tbl (fun j => by simp)
            have k_557 := FR.row fσ_392 tbl (fun j => by simp)
            have k_558a := congrFun eσ_548 bl
            rw [up2_row _ _ (tg_ne tbl th0 (by decide))] at k_558a
            have k_559 : σ_548 h0 12 = (σ_20 h0 12) := by rw [eσ_548, up2_nej _ _ (by decide)]; exact k_402
            have R_550 : RLx σ σ_548 h0 bg bl tx 1 1 := RLx.fr 1 g_26 ((k_554a).trans ((k_553).trans ((k_552).trans (k_551)))) ((k_558a).trans ((k_557).trans ((k_556).trans (k_555)))) (by rw [k_559]; omega) (by rw [k_549]; omega)
            have R_550n := R_550.2.1
            have cq_560 : (σ_548 h0 8).toInt = x_547.toInt := congrArg Int32.toInt k_549
            have k_561 : σ_548 h0 1 = (σ h0 1) := by rw [eσ_548, up2_nej _ _ (by decide)]; exact k_400
            have cq_562 : (σ_548 h0 1).toInt = (σ h0 1).toInt := congrArg Int32.toInt k_561
            have cq_563 : (σ_548 h0 12).toInt = (σ_20 h0 12).toInt := congrArg Int32.toInt k_559
            have k_564 : σ_548 bl tx.toNatClampNeg = (σ_20 bl tx.toNatClampNeg) := by rw [eσ_548, up2_nea _ _ (tg_ne tbl th0 (by decide))]; exact k_404
            have cq_565 : (σ_548 bl tx.toNatClampNeg).toInt = (σ_20 bl tx.toNatClampNeg).toInt := congrArg Int32.toInt k_564
            have k_566 : σ_33 h0 11 = tx := (FR.at fσ_33 th0 (by decide)).trans k_23
            have k_567 : σ_205 h0 11 = tx := (FR.at fσ_205 th0 (by decide)).trans k_566
            have k_568 : σ_392 h0 11 = tx := (FR.at fσ_392 th0 (by decide)).trans k_567
            have k_569 : σ_548 h0 11 = tx := by rw [eσ_548, up2_nej _ _ (by decide)]; exact k_568
            refine t_ci (va_runV (As := []) (rest := []) ⟨hx, hb, hml, hown, hts⟩ (cz_X12_value l D cA L T r hG hLA.1 σ_548 ρ_393 hB.2.1 _ h0 mh0 th0 bt hbt mbt tbt bg hbg mbg tbg bl hbl mbl tbl tx k_569 (by first | omega | decide) (by first | omega | decide) (by omega)) (cV hts mv_X12_value mw_6_224 rfl rfl ⟨Nat.le_of_ble_eq_true rfl, Nat.le_of_ble_eq_true rfl⟩) (pV hB.1 hK hN mh0 th0 (show shp cA 12 _ _ _ = .inr (12, Fs12 _ _ _) from rfl) rfl) rfl rfl hl.1 rfl (lv_room (Nat.le_of_ble_eq_true rfl)) dX12_term_86 ⟨Nat.le_of_ble_eq_true rfl, Nat.le_of_ble_eq_true rfl⟩) hLA hA hB hS (by decide) (fun x_572 σ_570 ρ_571 H locs hB fσ_570 pσ_570 hS => ?_)
            obtain ⟨g_573, g_574, g_575, g_576⟩ := pσ_570
            have w_577 : 0 ≤ (σ_570 bl tx.toNatClampNeg).toInt ∧ (σ_570 bl tx.toNatClampNeg).toInt ≤ 400 := by have z := hB.2.1 bl mbl tx.toNatClampNeg; rw [tbl] at z; exact z
            have w_578 : 0 ≤ (σ_570 h0 8).toInt ∧ (σ_570 h0 8).toInt ≤ 400 := by have z := hB.2.1 h0 mh0 8; rw [th0] at z; exact z
            have w_579 : 0 ≤ (σ_570 h0 12).toInt ∧ (σ_570 h0 12).toInt ≤ 60 := by have z := hB.2.1 h0 mh0 12; rw [th0] at z; exact z
            have k_580 := FR.row fσ_33 tbg (fun j => by simp)
            have k_581 := FR.row fσ_205 tbg (fun j => by simp)
            have k_582 := FR.row fσ_392 tbg (fun j => by simp)
            have k_583a := congrFun eσ_548 bg
            rw [up2_row _ _ (tg_ne tbg th0 (by decide))] at k_583a
            have k_584 := FR.row fσ_33 tbl (fun j => by simp)
            have k_585 := FR.row fσ_205 tbl (fun j => by simp)
            have k_586 := FR.row fσ_392 tbl (fun j => by simp)
            have k_587a := congrFun eσ_548 bl
            rw [up2_row _ _ (tg_ne tbl th0 (by decide))] at k_587a
            have ex_588 : EX (σ bg) (σ bl) (σ_548 bg) (σ_548 bl) tx := by rw [((k_583a).trans ((k_582).trans ((k_581).trans (k_580)))), ((k_587a).trans ((k_586).trans ((k_585).trans (k_584))))]; exact g_26.1
            have ex_589 := EX.tr ex_588 g_575
            obtain ⟨lx_572, ux_572⟩ := g_573
            have k_590 : σ_570 h0 1 = (σ h0 1) := (FR.at fσ_570 th0 (by decide)).trans k_561
            have cq_591 : (σ_570 h0 1).toInt = (σ h0 1).toInt := congrArg Int32.toInt k_590
            refine lv_if_ne (tgt := 94) hx hb dX12_term_89 (by decide) (fun c_592 => ?_) (fun c_592 => ?_)
            · skip
              have uc_592 := i_ne (n := 0) (by decide) c_592
              have R_593 : RLx σ σ_570 h0 bg bl tx 2 1 := RLx.tr R_550 (g_576 (by omega))
              have R_593n := R_593.2.1
              refine lv_aload_n hx hb dX12_term_94 rfl (lv_at hl 1 rfl) ?_
              refine lv_iload_n hx hb dX12_term_95 rfl (lv_at hl 0 rfl) ?_
              refine lv_iconst (v := 0) hx hb dX12_term_96 (by decide) ?_
              have hPL6 : 0 ≤ (σ_570 bl tx.toNatClampNeg).toInt := (by omega)
              have k_594 : σ_570 h0 11 = tx := (FR.at fσ_570 th0 (by decide)).trans k_569
              refine t_cv (va_runV (As := [.int 4, .int 0]) (rest := []) ⟨hx, hb, hml, hown, hts⟩ (cz_X12_puts l D cA L T r hG hLA.1 σ_570 ρ_571 hB.2.1 _ h0 mh0 th0 4 0 bg hbg mbg tbg bl hbl mbl tbl tx k_594 (by first | omega | decide) (by first | omega | decide) (by omega)) (cV hts mv_X12_puts mw_6_233 rfl rfl ⟨Nat.le_of_ble_eq_true rfl, Nat.le_of_ble_eq_true rfl⟩) (pV hB.1 hK hN mh0 th0 (show shp cA 12 _ _ _ = .inr (12, Fs12 _ _ _) from rfl) rfl) rfl rfl hl.1 rfl (lv_room (Nat.le_of_ble_eq_true rfl)) dX12_term_97 ⟨Nat.le_of_ble_eq_true rfl, Nat.le_of_ble_eq_true rfl⟩) hLA hA hB hS (by decide) (fun σ_595 ρ_596 H locs hB fσ_595 pσ_595 hS => ?_)
              have w_598 : 0 ≤ (σ_595 bl tx.toNatClampNeg).toInt ∧ (σ_595 bl tx.toNatClampNeg).toInt ≤ 400 := by have z := hB.2.1 bl mbl tx.toNatClampNeg; rw [tbl] at z; exact z
              have k_599 : σ_595 h0 8 = (σ_570 h0 8) := (FR.at fσ_595 th0 (by decide)).trans rfl
              have cq_600 : (σ_595 h0 8).toInt = (σ_570 h0 8).toInt := congrArg Int32.toInt k_599
              have k_601 : σ_595 h0 1 = (σ h0 1) := (FR.at fσ_595 th0 (by decide)).trans k_590
              have cq_602 : (σ_595 h0 1).toInt = (σ h0 1).toInt := congrArg Int32.toInt k_601
              have k_603 : σ_595 h0 12 = (σ_570 h0 12) := (FR.at fσ_595 th0 (by decide)).trans rfl
              have cq_604 : (σ_595 h0 12).toInt = (σ_570 h0 12).toInt := congrArg Int32.toInt k_603
              have ex_605 := EX.tr ex_589 (PU.ex pσ_595 (by have z := hPL6; omega))
              have R_606 : RLx σ σ_595 h0 bg bl tx 1 0 := RLx.bin (k := 0) (s := 0) R_593 pσ_595 (by have z := hPL6; omega) (FR.at fσ_595 th0 (by decide)) (FR.at fσ_595 th0 (by decide)) (stp_bin (by decide))
              have R_606n := R_606.2.1
              refine lv_goto (tgt := 9) hx hb dX12_term_100 (by decide) ?_
              have k_607 : σ_595 h0 11 = tx := (FR.at fσ_595 th0 (by decide)).trans k_594
              exact ih_22 ⟨σ_595, ρ_596⟩ _ _ _ ⟨k_607, k_601, R_606, (by rw [k_599]; omega), hB, hS, lv_sub hl [1] rfl⟩ (by show (400 - (σ_595 h0 8).toInt).toNat < (400 - (σ_20 h0 8).toInt).toNat; rw [k_599]; omega)
            · skip
              have uc_592 := i_eq (n := 0) (by decide) c_592
              refine lv_iconst (v := 0) hx hb dX12_term_92 (by decide) ?_
              exact W.zret (v := 0) hx hb hr rfl (fun t ht hW => ⟨⟨0, (σ_570, ρ_571), rfl, ⟨hB.2.1, hB.2.2, ⟨(show 0 ≤ (0 : Int32).toInt ∧ (0 : Int32).toInt ≤ 1 from ⟨by decide, by decide⟩), (show (σ h0 8).toInt ≤ (σ_570 h0 8).toInt from (by omega)), (show EX (σ bg) (σ bl) (σ_570 bg) (σ_570 bl) tx from ex_589), (show (0 : Int32).toInt = 1 → RLx σ σ_570 h0 bg bl tx 1 0 from (fun h => absurd h (by decide)))⟩⟩, (show TP D cA L T r σ_570 ρ_571 t.heap from by rw [ht]; exact hB.1)⟩, hS.F ht⟩) hS.2.2 dX12_term_93
  · skip
    have uc_18 := i_eq (n := 0) (by decide) c_18
    refine lv_iconst (v := 0) hx hb dX12_term_7 (by decide) ?_
    exact W.zret (v := 0) hx hb hr rfl (fun t ht hW => ⟨⟨0, (σ_5, ρ_6), rfl, ⟨hB.2.1, hB.2.2, ⟨(show 0 ≤ (0 : Int32).toInt ∧ (0 : Int32).toInt ≤ 1 from ⟨by decide, by decide⟩), (show (σ h0 8).toInt ≤ (σ_5 h0 8).toInt from (by omega)), (show EX (σ bg) (σ bl) (σ_5 bg) (σ_5 bl) tx from ex_15), (show (0 : Int32).toInt = 1 → RLx σ σ_5 h0 bg bl tx 1 0 from (fun h => absurd h (by decide)))⟩⟩, (show TP D cA L T r σ_5 ρ_6 t.heap from by rw [ht]; exact hB.1)⟩, hS.F ht⟩) hS.2.2 dX12_term_8
theorem mw_6_222 : (.instanceMethod yX12_term : Cond) ∈ wsA := wsA_t (List.mem_append_right _ (List.mem_append_right _ (List.mem_append_right _ (List.mem_append_right _ (List.mem_append_right _ (List.mem_append_left _ (List.mem_of_getElem? (l := tables_1_6) (i := 222) rfl))))))) rfl
theorem mp_5_0 : (.selects RX12 yX12_term yX12_term : Cond) ∈ wsA := wsA_p (q := (yX12_term, 44)) (List.mem_append_right _ (List.mem_append_right _ (List.mem_append_right _ (List.mem_append_right _ (List.mem_append_left _ (List.mem_of_getElem? (l := lw_privs_5) (i := 0) rfl))))))
theorem mw_6_223 : (.code yX12_term cX12_term 2 (some .boolean) : Cond) ∈ wsA := wsA_t (List.mem_append_right _ (List.mem_append_right _ (List.mem_append_right _ (List.mem_append_right _ (List.mem_append_right _ (List.mem_append_left _ (List.mem_of_getElem? (l := tables_1_6) (i := 223) rfl))))))) rfl
theorem mw_6_220 : (.methodLink RX12 188 yX12_term : Cond) ∈ wsA := wsA_t (List.mem_append_right _ (List.mem_append_right _ (List.mem_append_right _ (List.mem_append_right _ (List.mem_append_right _ (List.mem_append_left _ (List.mem_of_getElem? (l := tables_1_6) (i := 220) rfl))))))) rfl
theorem dX12_sum_0 : decode cX12_sum 0 = .ok (.aload_n 0, 1) := by decide +kernel
theorem dX12_sum_1 : decode cX12_sum 1 = .ok (.invokevirtual 188, 3) := by decide +kernel
theorem dX12_sum_4 : decode cX12_sum 4 = .ok (.ifCond .ne 5, 3) := by decide +kernel
theorem dX12_sum_9 : decode cX12_sum 9 = .ok (.aload_n 0, 1) := by decide +kernel
theorem dX12_sum_10 : decode cX12_sum 10 = .ok (.invokevirtual 105, 3) := by decide +kernel
theorem dX12_sum_13 : decode cX12_sum 13 = .ok (.bipush 43, 2) := by decide +kernel
theorem dX12_sum_15 : decode cX12_sum 15 = .ok (.if_icmp .eq 12, 3) := by decide +kernel
theorem dX12_sum_27 : decode cX12_sum 27 = .ok (.aload_n 0, 1) := by decide +kernel
theorem dX12_sum_28 : decode cX12_sum 28 = .ok (.getfield 7, 3) := by decide +kernel
theorem dX12_sum_31 : decode cX12_sum 31 = .ok (.aload_n 0, 1) := by decide +kernel
theorem dX12_sum_32 : decode cX12_sum 32 = .ok (.getfield 102, 3) := by decide +kernel
theorem dX12_sum_35 : decode cX12_sum 35 = .ok (.baload, 1) := by decide +kernel
theorem dX12_sum_36 : decode cX12_sum 36 = .ok (.bipush 43, 2) := by decide +kernel
theorem dX12_sum_38 : decode cX12_sum 38 = .ok (.if_icmp .ne 7, 3) := by decide +kernel
theorem dX12_sum_45 : decode cX12_sum 45 = .ok (.iconst 3, 1) := by decide +kernel
theorem dX12_sum_46 : decode cX12_sum 46 = .ok (.istore_n 1, 1) := by decide +kernel
theorem dX12_sum_47 : decode cX12_sum 47 = .ok (.aload_n 0, 1) := by decide +kernel
theorem dX12_sum_48 : decode cX12_sum 48 = .ok (.dup, 1) := by decide +kernel
theorem dX12_sum_49 : decode cX12_sum 49 = .ok (.getfield 102, 3) := by decide +kernel
theorem dX12_sum_52 : decode cX12_sum 52 = .ok (.iconst 1, 1) := by decide +kernel
theorem dX12_sum_53 : decode cX12_sum 53 = .ok (.iadd, 1) := by decide +kernel
theorem dX12_sum_54 : decode cX12_sum 54 = .ok (.putfield 102, 3) := by decide +kernel
theorem dX12_sum_57 : decode cX12_sum 57 = .ok (.aload_n 0, 1) := by decide +kernel
theorem dX12_sum_58 : decode cX12_sum 58 = .ok (.invokevirtual 188, 3) := by decide +kernel
theorem dX12_sum_61 : decode cX12_sum 61 = .ok (.ifCond .ne 5, 3) := by decide +kernel
theorem dX12_sum_66 : decode cX12_sum 66 = .ok (.aload_n 0, 1) := by decide +kernel
theorem dX12_sum_67 : decode cX12_sum 67 = .ok (.iload_n 1, 1) := by decide +kernel
theorem dX12_sum_68 : decode cX12_sum 68 = .ok (.iconst 0, 1) := by decide +kernel
theorem dX12_sum_69 : decode cX12_sum 69 = .ok (.invokevirtual 170, 3) := by decide +kernel
theorem dX12_sum_72 : decode cX12_sum 72 = .ok (.goto (-63), 3) := by decide +kernel
theorem dX12_sum_64 : decode cX12_sum 64 = .ok (.iconst 0, 1) := by decide +kernel
theorem dX12_sum_65 : decode cX12_sum 65 = .ok (.ireturn, 1) := by decide +kernel
theorem dX12_sum_41 : decode cX12_sum 41 = .ok (.iconst 2, 1) := by decide +kernel
theorem dX12_sum_42 : decode cX12_sum 42 = .ok (.goto 4, 3) := by decide +kernel
theorem dX12_sum_18 : decode cX12_sum 18 = .ok (.aload_n 0, 1) := by decide +kernel
theorem dX12_sum_19 : decode cX12_sum 19 = .ok (.invokevirtual 105, 3) := by decide +kernel
theorem dX12_sum_22 : decode cX12_sum 22 = .ok (.bipush 45, 2) := by decide +kernel
theorem dX12_sum_24 : decode cX12_sum 24 = .ok (.if_icmp .ne 51, 3) := by decide +kernel
theorem dX12_sum_75 : decode cX12_sum 75 = .ok (.iconst 1, 1) := by decide +kernel
theorem dX12_sum_76 : decode cX12_sum 76 = .ok (.ireturn, 1) := by decide +kernel
theorem dX12_sum_7 : decode cX12_sum 7 = .ok (.iconst 0, 1) := by decide +kernel
theorem dX12_sum_8 : decode cX12_sum 8 = .ok (.ireturn, 1) := by decide +kernel
theorem mv_X12_term : MV RX12 yX12_term cX12_term 2 (some .boolean) 0 := ⟨mw_6_222, mp_5_0, mw_1_13, mw_6_223, ⟨rfl, by decide, by decide, by decide +kernel⟩⟩
set_option maxHeartbeats 4000000 in
set_option maxRecDepth 100000 in
theorem cz_X12_sum (l : Launch) (D : va_G) (cA : Nat → ClassId) (L : List Nat) (T : Nat → Nat) (r : Rg) (hG : GR L T r) (hL : L.Nodup) (σ : Sg) (ρ : Lg) (hW : WT L ry T σ) (sz : Nat) (h0 : Nat) (mh0 : h0 ∈ L) (th0 : T h0 = 12) (bt : Nat) (hbt : r h0 0 = some bt) (mbt : bt ∈ L) (tbt : T bt = 61) (bg : Nat) (hbg : r h0 3 = some bg) (mbg : bg ∈ L) (tbg : T bg = 62) (bl : Nat) (hbl : r h0 4 = some bl) (mbl : bl ∈ L) (tbl : T bl = 63) (tx : Int32) (k0 : σ h0 11 = tx) (w0 : 0 ≤ tx.toInt) (w1 : tx.toInt ≤ 5) (w2 : (σ bl tx.toNatClampNeg).toInt ≤ (σ h0 8).toInt) : Met l yX12_sum (.code yX12_sum cX12_sum 2 (some .boolean) :: wsA) ({ frames := 5, cells := 0, slots := 0, locals := 109 }) (PR D cA L T r σ ρ sz [.ref h0]) (QI D cA L T r ry [(12, 8), (12, 9), (12, 10), (12, 12), (62, 1000), (63, 1000)] σ sz (fun x σ1 => (0 ≤ x.toInt ∧ x.toInt ≤ 1) ∧ ((σ h0 8).toInt ≤ (σ1 h0 8).toInt) ∧ (EX (σ bg) (σ bl) (σ1 bg) (σ1 bl) tx) ∧ (x.toInt = 1 → RLx σ σ1 h0 bg bl tx 1 0))) 0 0 (dm L sz) := by
  refine Met.ofW (cc := cX12_sum) (maxL := 2) (ret := (some .boolean)) (by decide) rfl ?_
  intro p e s m args below meth c s₁ B hml hv
  obtain ⟨rfl, hsz, hP, hK, hN⟩ := hv
  have hx := B.exec
  have hb := B.bytes
  have hr := B.returns
  have hts : ∀ w ∈ wsA, w.before _ s = true := fun w h => atoms_spec (ws := .code yX12_sum cX12_sum 2 (some .boolean) :: wsA) B.pre w (List.mem_cons_of_mem _ h)
  have hown : s.vm.findClass RX12 = some m.cls := findClass_of_methodNamed B.named
  subst hsz
  have hLA : LA (dm L s.heap.size) L := ⟨hL, fun a h => Or.inl h⟩
  have hA : ∀ q : Nat, s.heap.size ≤ q → dm L s.heap.size q := fun q h => Or.inr h
  have hS : va_S (dm L s.heap.size) s.heap s.heap [] := va_S.rf
  have hB : TS D cA L T r ry [(12, 8), (12, 9), (12, 10), (12, 12), (62, 1000), (63, 1000)] σ σ ρ s.heap := ⟨hP, hW, FR.rf⟩
  have hl := lv_entry ([.ref h0]) (n := 2) (Nat.le_of_ble_eq_true rfl)
  rw [lg_entry_eq]
  generalize (lg_sl ([.ref h0]) ++ List.replicate (2 - (lg_sl ([.ref h0])).length) Slot.unset).toArray = ls at hl ⊢
  have hl : lv_has ls 2 [(0, .ref h0)] := hl
  have w_1 : 0 ≤ (σ h0 8).toInt ∧ (σ h0 8).toInt ≤ 400 := by have z := hB.2.1 h0 mh0 8; rw [th0] at z; exact z
  have w_2 : 0 ≤ (σ h0 1).toInt ∧ (σ h0 1).toInt ≤ 400 := by have z := hB.2.1 h0 mh0 1; rw [th0] at z; exact z
  have w_3 : 0 ≤ (σ h0 12).toInt ∧ (σ h0 12).toInt ≤ 60 := by have z := hB.2.1 h0 mh0 12; rw [th0] at z; exact z
  have w_4 : 0 ≤ (σ bl tx.toNatClampNeg).toInt ∧ (σ bl tx.toNatClampNeg).toInt ≤ 400 := by have z := hB.2.1 bl mbl tx.toNatClampNeg; rw [tbl] at z; exact z
  have R0 : RLx σ σ h0 bg bl tx 0 0 := RLx.rf
  refine lv_aload_n hx hb dX12_sum_0 rfl (lv_at hl 0 rfl) ?_
  refine t_ci (va_runV (As := []) (rest := []) ⟨hx, hb, hml, hown, hts⟩ (cz_X12_term l D cA L T r hG hLA.1 σ ρ hB.2.1 _ h0 mh0 th0 bt hbt mbt tbt bg hbg mbg tbg bl hbl mbl tbl tx k0 (by first | omega | decide) (by first | omega | decide) (by omega)) (cV hts mv_X12_term mw_6_220 rfl rfl ⟨Nat.le_of_ble_eq_true rfl, Nat.le_of_ble_eq_true rfl⟩) (pV hB.1 hK hN mh0 th0 (show shp cA 12 _ _ _ = .inr (12, Fs12 _ _ _) from rfl) rfl) rfl rfl hl.1 rfl (lv_room (Nat.le_of_ble_eq_true rfl)) dX12_sum_1 ⟨Nat.le_of_ble_eq_true rfl, Nat.le_of_ble_eq_true rfl⟩) hLA hA hB hS (by decide) (fun x_7 σ_5 ρ_6 H locs hB fσ_5 pσ_5 hS => ?_)
  obtain ⟨g_8, g_9, g_10, g_11⟩ := pσ_5
  have w_12 : 0 ≤ (σ_5 bl tx.toNatClampNeg).toInt ∧ (σ_5 bl tx.toNatClampNeg).toInt ≤ 400 := by have z := hB.2.1 bl mbl tx.toNatClampNeg; rw [tbl] at z; exact z
  have w_13 : 0 ≤ (σ_5 h0 8).toInt ∧ (σ_5 h0 8).toInt ≤ 400 := by have z := hB.2.1 h0 mh0 8; rw [th0] at z; exact z
  have w_14 : 0 ≤ (σ_5 h0 12).toInt ∧ (σ_5 h0 12).toInt ≤ 60 := by have z := hB.2.1 h0 mh0 12; rw [th0] at z; exact z
  have ex_15 := EX.tr EX.rf g_10
  obtain ⟨lx_7, ux_7⟩ := g_8
  have k_16 : σ_5 h0 1 = (σ h0 1) := (FR.at fσ_5 th0 (by decide)).trans rfl
  have cq_17 : (σ_5 h0 1).toInt = (σ h0 1).toInt := congrArg Int32.toInt k_16
  refine lv_if_ne (tgt := 9) hx hb dX12_sum_4 (by decide) (fun c_18 => ?_) (fun c_18 => ?_)
  · skip
    have uc_18 := i_ne (n := 0) (by decide) c_18
    have k_19 : σ_5 h0 11 = tx := (FR.at fσ_5 th0 (by decide)).trans k0
    have R_25 : RLx σ σ_5 h0 bg bl tx 1 0 := RLx.tr R0 (g_11 (by omega))
    have R_25n := R_25.2.1
    refine w_loop (α := Sg × Lg) (fun (σ_20, ρ_21) H locs ls => σ_20 h0 11 = tx ∧ σ_20 h0 1 = (σ h0 1) ∧ (RLx σ σ_20 h0 bg bl tx 1 0) ∧ ((σ h0 8).toInt ≤ (σ_20 h0 8).toInt) ∧ TS D cA L T r ry [(12, 8), (12, 9), (12, 10), (12, 12), (62, 1000), (63, 1000)] σ σ_20 ρ_21 H ∧ va_S (dm L s.heap.size) s.heap H locs ∧ lv_has ls 2 [(0, .ref h0)]) (fun (σ_20, ρ_21) => (400 - (σ_20 h0 8).toInt).toNat) ?_ ⟨σ_5, ρ_6⟩ ⟨k_19, k_16, R_25, (by omega), hB, hS, lv_sub hl [0] rfl⟩
    rintro ⟨σ_20, ρ_21⟩ H locs ls ⟨k_23, k_24, g_26, g_27, hB, hS, hl⟩ ih_22
    have w_28 : 0 ≤ (σ_20 h0 8).toInt ∧ (σ_20 h0 8).toInt ≤ 400 := by have z := hB.2.1 h0 mh0 8; rw [th0] at z; exact z
    have w_29 : 0 ≤ (σ_20 h0 12).toInt ∧ (σ_20 h0 12).toInt ≤ 60 := by have z := hB.2.1 h0 mh0 12; rw [th0] at z; exact z
    have w_30 : 0 ≤ (σ_20 bl tx.toNatClampNeg).toInt ∧ (σ_20 bl tx.toNatClampNeg).toInt ≤ 400 := by have z := hB.2.1 bl mbl tx.toNatClampNeg; rw [tbl] at z; exact z
    have cq_31 := congrArg Int32.toInt k_24
    have g_26n := g_26.2.1
    refine lv_aload_n hx hb dX12_sum_9 rfl (lv_at hl 0 rfl) ?_
    have cq_32 : (σ_20 h0 1).toInt = (σ h0 1).toInt := congrArg Int32.toInt k_24
    refine t_ci (va_runV (As := []) (rest := []) ⟨hx, hb, hml, hown, hts⟩ (cz_X12_see l D cA L T r hG hLA.1 σ_20 ρ_21 hB.2.1 _ h0 mh0 th0 bt hbt mbt tbt) (cV hts mv_X12_see mw_6_134 rfl rfl ⟨Nat.le_of_ble_eq_true rfl, Nat.le_of_ble_eq_true rfl⟩) (pV hB.1 hK hN mh0 th0 (show shp cA 12 _ _ _ = .inr (12, Fs12 _ _ _) from rfl) rfl) rfl rfl hl.1 rfl (lv_room (Nat.le_of_ble_eq_true rfl)) dX12_sum_10 ⟨Nat.le_of_ble_eq_true rfl, Nat.le_of_ble_eq_true rfl⟩) hLA hA hB hS (by decide) (fun x_35 σ_33 ρ_34 H locs hB fσ_33 pσ_33 hS => ?_)
    obtain ⟨g_36, g_37, g_38, g_39⟩ := pσ_33
    have w_40 : 0 ≤ (σ_33 h0 8).toInt ∧ (σ_33 h0 8).toInt ≤ 400 := by have z := hB.2.1 h0 mh0 8; rw [th0] at z; exact z
    obtain ⟨lx_35, ux_35⟩ := g_36
    have k_41 : σ_33 h0 1 = (σ h0 1) := (FR.at fσ_33 th0 (by decide)).trans k_24
    have cq_42 : (σ_33 h0 1).toInt = (σ h0 1).toInt := congrArg Int32.toInt k_41
    have k_43 : σ_33 h0 12 = (σ_20 h0 12) := (FR.at fσ_33 th0 (by decide)).trans rfl
    have cq_44 : (σ_33 h0 12).toInt = (σ_20 h0 12).toInt := congrArg Int32.toInt k_43
    have k_45 : σ_33 bl tx.toNatClampNeg = (σ_20 bl tx.toNatClampNeg) := (FR.at fσ_33 tbl (by simp)).trans rfl
    have cq_46 : (σ_33 bl tx.toNatClampNeg).toInt = (σ_20 bl tx.toNatClampNeg).toInt := congrArg Int32.toInt k_45
    refine lv_bipush (v := 43) hx hb dX12_sum_13 (by decide) ?_
    refine lv_icmp_eq (tgt := 27) hx hb dX12_sum_15 (by decide) (fun c_47 => ?_) (fun c_47 => ?_)
    · skip
      have uc_47 := i_eq (n := 43) (by decide) c_47
      refine lv_aload_n hx hb dX12_sum_27 rfl (lv_at hl 0 rfl) ?_
      refine t_gk hx hb hts hown hK hB mh0 th0 fq_12_0 hbt mw_5_216 dX12_sum_28 ?_
      refine lv_aload_n hx hb dX12_sum_31 rfl (lv_at hl 0 rfl) ?_
      refine t_gv hx hb hts hown hK hB mh0 th0 fi_12_8 rfl mw_5_224 dX12_sum_32 ?_
      refine t_ab hx hb hK hB mbt tbt ai_61 (fun _ => rfl) (i_in (by omega) (by omega)) dX12_sum_35 (fun x_48 ex_48 lx_48 ux_48 => ?_)
      have cx_48 := congrArg Int32.toInt ex_48
      refine lv_bipush (v := 43) hx hb dX12_sum_36 (by decide) ?_
      refine lv_icmp_ne (tgt := 45) hx hb dX12_sum_38 (by decide) (fun c_49 => ?_) (fun c_49 => ?_)
      · skip
        have uc_49 := i_ne (n := 43) (by decide) c_49
        refine lv_iconst (v := 3) hx hb dX12_sum_45 (by decide) ?_
        refine lv_istore_n (lv' := [(1, .int 3), (0, .ref h0)]) hx hb dX12_sum_46 rfl hl (by decide) rfl (fun ls hl => ?_)
        refine lv_aload_n hx hb dX12_sum_47 rfl (lv_at hl 1 rfl) ?_
        refine lv_dup hx hb dX12_sum_48 rfl ?_
        refine t_gv hx hb hts hown hK hB mh0 th0 fi_12_8 rfl mw_5_224 dX12_sum_49 ?_
        refine lv_iconst (v := 1) hx hb dX12_sum_52 (by decide) ?_
        refine lv_iadd hx hb dX12_sum_53 ?_
        refine lv_topi (fun x_50 ex_50 => ?_)
        have vx_50 := b_add (rfl : (σ_33 h0 8).toInt = _) (by decide : (1 : Int32).toInt = 1) ex_50 (by omega) (by omega)
        refine t_pi hx hb hts hown hK hLA hB hS mh0 th0 fi_12_8 rfl rfl rfl (by first | omega | (subst_vars; omega)) (by first | omega | (subst_vars; omega)) (Or.inl (by decide)) mw_5_224 dX12_sum_54 (fun H locs σ_51 eσ_51 hB hS => ?_)
        have k_52 : σ_51 h0 8 = x_50 := by rw [eσ_51]; exact up2_same _ _ _ _
        refine lv_aload_n hx hb dX12_sum_57 rfl (lv_at hl 1 rfl) ?_
        have k_54 := FR.row fσ_33 tbg (fun j => by simp)
        have k_55a := congrFun eσ_51 bg
        rw [up2_row _ _ (tg_ne tbg th0 (by decide))] at k_55a
        have k_56 := FR.row fσ_33 tbl (fun j => by simp)
        have k_57a := congrFun eσ_51 bl
        rw [up2_row _ _ (tg_ne tbl th0 (by decide))] at k_57a
        have k_58 : σ_51 h0 12 = (σ_20 h0 12) := by rw [eσ_51, up2_nej _ _ (by decide)]; exact k_43
        have R_53 : RLx σ σ_51 h0 bg bl tx 1 1 := RLx.fr 1 g_26 ((k_55a).trans (k_54)) ((k_57a).trans (k_56)) (by rw [k_58]; omega) (by rw [k_52]; omega)
        have R_53n := R_53.2.1
        have cq_59 : (σ_51 h0 8).toInt = x_50.toInt := congrArg Int32.toInt k_52
        have k_60 : σ_51 h0 1 = (σ h0 1) := by rw [eσ_51, up2_nej _ _ (by decide)]; exact k_41
        have cq_61 : (σ_51 h0 1).toInt = (σ h0 1).toInt := congrArg Int32.toInt k_60
        have cq_62 : (σ_51 h0 12).toInt = (σ_20 h0 12).toInt := congrArg Int32.toInt k_58
        have k_63 : σ_51 bl tx.toNatClampNeg = (σ_20 bl tx.toNatClampNeg) := by rw [eσ_51, up2_nea _ _ (tg_ne tbl th0 (by decide))]; exact k_45
        have cq_64 : (σ_51 bl tx.toNatClampNeg).toInt = (σ_20 bl tx.toNatClampNeg).toInt := congrArg Int32.toInt k_63
        have k_65 : σ_33 h0 11 = tx := (FR.at fσ_33 th0 (by decide)).trans k_23
        have k_66 : σ_51 h0 11 = tx := by rw [eσ_51, up2_nej _ _ (by decide)]; exact k_65
        refine t_ci (va_runV (As := []) (rest := []) ⟨hx, hb, hml, hown, hts⟩ (cz_X12_term l D cA L T r hG hLA.1 σ_51 ρ_34 hB.2.1 _ h0 mh0 th0 bt hbt mbt tbt bg hbg mbg tbg bl hbl mbl tbl tx k_66 (by first | omega | decide) (by first | omega | decide) (by omega)) (cV hts mv_X12_term mw_6_220 rfl rfl ⟨Nat.le_of_ble_eq_true rfl, Nat.le_of_ble_eq_true rfl⟩) (pV hB.1 hK hN mh0 th0 (show shp cA 12 _ _ _ = .inr (12, Fs12 _ _ _) from rfl) rfl) rfl rfl hl.1 rfl (lv_room (Nat.le_of_ble_eq_true rfl)) dX12_sum_58 ⟨Nat.le_of_ble_eq_true rfl, Nat.le_of_ble_eq_true rfl⟩) hLA hA hB hS (by decide) (fun x_69 σ_67 ρ_68 H locs hB fσ_67 pσ_67 hS => ?_)
        obtain ⟨g_70, g_71, g_72, g_73⟩ := pσ_67
        have w_74 : 0 ≤ (σ_67 bl tx.toNatClampNeg).toInt ∧ (σ_67 bl tx.toNatClampNeg).toInt ≤ 400 := by have z := hB.2.1 bl mbl tx.toNatClampNeg; rw [tbl] at z; exact z
        have w_75 : 0 ≤ (σ_67 h0 8).toInt ∧ (σ_67 h0 8).toInt ≤ 400 := by have z := hB.2.1 h0 mh0 8; rw [th0] at z; exact z
        have w_76 : 0 ≤ (σ_67 h0 12).toInt ∧ (σ_67 h0 12).toInt ≤ 60 := by have z := hB.2.1 h0 mh0 12; rw [th0] at z; exact z
        have k_77 := FR.row fσ_33 tbg (fun j => by simp)
        have k_78a := congrFun eσ_51 bg
        rw [up2_row _ _ (tg_ne tbg th0 (by decide))] at k_78a
        have k_79 := FR.row fσ_33 tbl (fun j => by simp)
        have k_80a := congrFun eσ_51 bl
        rw [up2_row _ _ (tg_ne tbl th0 (by decide))] at k_80a
        have ex_81 : EX (σ bg) (σ bl) (σ_51 bg) (σ_51 bl) tx := by rw [((k_78a).trans (k_77)), ((k_80a).trans (k_79))]; exact g_26.1
        have ex_82 := EX.tr ex_81 g_72
        obtain ⟨lx_69, ux_69⟩ := g_70
        have k_83 : σ_67 h0 1 = (σ h0 1) := (FR.at fσ_67 th0 (by decide)).trans k_60
        have cq_84 : (σ_67 h0 1).toInt = (σ h0 1).toInt := congrArg Int32.toInt k_83
        refine lv_if_ne (tgt := 66) hx hb dX12_sum_61 (by decide) (fun c_85 => ?_) (fun c_85 => ?_)
        · skip
          have uc_85 := i_ne (n := 0) (by decide) c_85
          have R_86 : RLx σ σ_67 h0 bg bl tx 2 1 := RLx.tr R_53 (g_73 (by omega))
          have R_86n := R_86.2.1
          refine lv_aload_n hx hb dX12_sum_66 rfl (lv_at hl 1 rfl) ?_
          refine lv_iload_n hx hb dX12_sum_67 rfl (lv_at hl 0 rfl) ?_
          refine lv_iconst (v := 0) hx hb dX12_sum_68 (by decide) ?_
          have hPL4 : 0 ≤ (σ_67 bl tx.toNatClampNeg).toInt := (by omega)
          have k_87 : σ_67 h0 11 = tx := (FR.at fσ_67 th0 (by decide)).trans k_66
          refine t_cv (va_runV (As := [.int 3, .int 0]) (rest := []) ⟨hx, hb, hml, hown, hts⟩ (cz_X12_puts l D cA L T r hG hLA.1 σ_67 ρ_68 hB.2.1 _ h0 mh0 th0 3 0 bg hbg mbg tbg bl hbl mbl tbl tx k_87 (by first | omega | decide) (by first | omega | decide) (by omega)) (cV hts mv_X12_puts mw_6_233 rfl rfl ⟨Nat.le_of_ble_eq_true rfl, Nat.le_of_ble_eq_true rfl⟩) (pV hB.1 hK hN mh0 th0 (show shp cA 12 _ _ _ = .inr (12, Fs12 _ _ _) from rfl) rfl) rfl rfl hl.1 rfl (lv_room (Nat.le_of_ble_eq_true rfl)) dX12_sum_69 ⟨Nat.le_of_ble_eq_true rfl, Nat.le_of_ble_eq_true rfl⟩) hLA hA hB hS (by decide) (fun σ_88 ρ_89 H locs hB fσ_88 pσ_88 hS => ?_)
          have w_91 : 0 ≤ (σ_88 bl tx.toNatClampNeg).toInt ∧ (σ_88 bl tx.toNatClampNeg).toInt ≤ 400 := by have z := hB.2.1 bl mbl tx.toNatClampNeg; rw [tbl] at z; exact z
          have k_92 : σ_88 h0 8 = (σ_67 h0 8) := (FR.at fσ_88 th0 (by decide)).trans rfl
          have cq_93 : (σ_88 h0 8).toInt = (σ_67 h0 8).toInt := congrArg Int32.toInt k_92
          have k_94 : σ_88 h0 1 = (σ h0 1) := (FR.at fσ_88 th0 (by decide)).trans k_83
          have cq_95 : (σ_88 h0 1).toInt = (σ h0 1).toInt := congrArg Int32.toInt k_94
          have k_96 : σ_88 h0 12 = (σ_67 h0 12) := (FR.at fσ_88 th0 (by decide)).trans rfl
          have cq_97 : (σ_88 h0 12).toInt = (σ_67 h0 12).toInt := congrArg Int32.toInt k_96
          have ex_98 := EX.tr ex_82 (PU.ex pσ_88 (by have z := hPL4; omega))
          have R_99 : RLx σ σ_88 h0 bg bl tx 1 0 := RLx.bin (k := 0) (s := 0) R_86 pσ_88 (by have z := hPL4; omega) (FR.at fσ_88 th0 (by decide)) (FR.at fσ_88 th0 (by decide)) (stp_bin (by decide))
          have R_99n := R_99.2.1
          refine lv_goto (tgt := 9) hx hb dX12_sum_72 (by decide) ?_
          have k_100 : σ_88 h0 11 = tx := (FR.at fσ_88 th0 (by decide)).trans k_87
          exact ih_22 ⟨σ_88, ρ_89⟩ _ _ _ ⟨k_100, k_94, R_99, (by rw [k_92]; omega), hB, hS, lv_sub hl [1] rfl⟩ (by show (400 - (σ_88 h0 8).toInt).toNat < (400 - (σ_20 h0 8).toInt).toNat; rw [k_92]; omega)
        · skip
          have uc_85 := i_eq (n := 0) (by decide) c_85
          refine lv_iconst (v := 0) hx hb dX12_sum_64 (by decide) ?_
          exact W.zret (v := 0) hx hb hr rfl (fun t ht hW => ⟨⟨0, (σ_67, ρ_68), rfl, ⟨hB.2.1, hB.2.2, ⟨(show 0 ≤ (0 : Int32).toInt ∧ (0 : Int32).toInt ≤ 1 from ⟨by decide, by decide⟩), (show (σ h0 8).toInt ≤ (σ_67 h0 8).toInt from (by omega)), (show EX (σ bg) (σ bl) (σ_67 bg) (σ_67 bl) tx from ex_82), (show (0 : Int32).toInt = 1 → RLx σ σ_67 h0 bg bl tx 1 0 from (fun h => absurd h (by decide)))⟩⟩, (show TP D cA L T r σ_67 ρ_68 t.heap from by rw [ht]; exact hB.1)⟩, hS.F ht⟩) hS.2.2 dX12_sum_65
      · skip
        have uc_49 := i_eq (n := 43) (by decide) c_49
        refine lv_iconst (v := 2) hx hb dX12_sum_41 (by decide) ?_
        refine lv_goto (tgt := 46) hx hb dX12_sum_42 (by decide) ?_
        refine lv_istore_n (lv' := [(1, .int 2), (0, .ref h0)]) hx hb dX12_sum_46 rfl hl (by decide) rfl (fun ls hl => ?_)
        refine lv_aload_n hx hb dX12_sum_47 rfl (lv_at hl 1 rfl) ?_
        refine lv_dup hx hb dX12_sum_48 rfl ?_
        refine t_gv hx hb hts hown hK hB mh0 th0 fi_12_8 rfl mw_5_224 dX12_sum_49 ?_
        refine lv_iconst (v := 1) hx hb dX12_sum_52 (by decide) ?_
        refine lv_iadd hx hb dX12_sum_53 ?_
        refine lv_topi (fun x_101 ex_101 => ?_)
        have vx_101 := b_add (rfl : (σ_33 h0 8).toInt = _) (by decide : (1 : Int32).toInt = 1) ex_101 (by omega) (by omega)
        refine t_pi hx hb hts hown hK hLA hB hS mh0 th0 fi_12_8 rfl rfl rfl (by first | omega | (subst_vars; omega)) (by first | omega | (subst_vars; omega)) (Or.inl (by decide)) mw_5_224 dX12_sum_54 (fun H locs σ_102 eσ_102 hB hS => ?_)
        have k_103 : σ_102 h0 8 = x_101 := by rw [eσ_102]; exact up2_same _ _ _ _
        refine lv_aload_n hx hb dX12_sum_57 rfl (lv_at hl 1 rfl) ?_
        have k_105 := FR.row fσ_33 tbg (fun j => by simp)
        have k_106a := congrFun eσ_102 bg
        rw [up2_row _ _ (tg_ne tbg th0 (by decide))] at k_106a
        have k_107 := FR.row fσ_33 tbl (fun j => by simp)
        have k_108a := congrFun eσ_102 bl
        rw [up2_row _ _ (tg_ne tbl th0 (by decide))] at k_108a
        have k_109 : σ_102 h0 12 = (σ_20 h0 12) := by rw [eσ_102, up2_nej _ _ (by decide)]; exact k_43
        have R_104 : RLx σ σ_102 h0 bg bl tx 1 1 := RLx.fr 1 g_26 ((k_106a).trans (k_105)) ((k_108a).trans (k_107)) (by rw [k_109]; omega) (by rw [k_103]; omega)
        have R_104n := R_104.2.1
        have cq_110 : (σ_102 h0 8).toInt = x_101.toInt := congrArg Int32.toInt k_103
        have k_111 : σ_102 h0 1 = (σ h0 1) := by rw [eσ_102, up2_nej _ _ (by decide)]; exact k_41
        have cq_112 : (σ_102 h0 1).toInt = (σ h0 1).toInt := congrArg Int32.toInt k_111
        have cq_113 : (σ_102 h0 12).toInt = (σ_20 h0 12).toInt := congrArg Int32.toInt k_109
        have k_114 : σ_102 bl tx.toNatClampNeg = (σ_20 bl tx.toNatClampNeg) := by rw [eσ_102, up2_nea _ _ (tg_ne tbl th0 (by decide))]; exact k_45
        have cq_115 : (σ_102 bl tx.toNatClampNeg).toInt = (σ_20 bl tx.toNatClampNeg).toInt := congrArg Int32.toInt k_114
        have k_116 : σ_33 h0 11 = tx := (FR.at fσ_33 th0 (by decide)).trans k_23
        have k_117 : σ_102 h0 11 = tx := by rw [eσ_102, up2_nej _ _ (by decide)]; exact k_116
        refine t_ci (va_runV (As := []) (rest := []) ⟨hx, hb, hml, hown, hts⟩ (cz_X12_term l D cA L T r hG hLA.1 σ_102 ρ_34 hB.2.1 _ h0 mh0 th0 bt hbt mbt tbt bg hbg mbg tbg bl hbl mbl tbl tx k_117 (by first | omega | decide) (by first | omega | decide) (by omega)) (cV hts mv_X12_term mw_6_220 rfl rfl ⟨Nat.le_of_ble_eq_true rfl, Nat.le_of_ble_eq_true rfl⟩) (pV hB.1 hK hN mh0 th0 (show shp cA 12 _ _ _ = .inr (12, Fs12 _ _ _) from rfl) rfl) rfl rfl hl.1 rfl (lv_room (Nat.le_of_ble_eq_true rfl)) dX12_sum_58 ⟨Nat.le_of_ble_eq_true rfl, Nat.le_of_ble_eq_true rfl⟩) hLA hA hB hS (by decide) (fun x_120 σ_118 ρ_119 H locs hB fσ_118 pσ_118 hS => ?_)
        obtain ⟨g_121, g_122, g_123, g_124⟩ := pσ_118
        have w_125 : 0 ≤ (σ_118 bl tx.toNatClampNeg).toInt ∧ (σ_118 bl tx.toNatClampNeg).toInt ≤ 400 := by have z := hB.2.1 bl mbl tx.toNatClampNeg; rw [tbl] at z; exact z
        have w_126 : 0 ≤ (σ_118 h0 8).toInt ∧ (σ_118 h0 8).toInt ≤ 400 := by have z := hB.2.1 h0 mh0 8; rw [th0] at z; exact z
        have w_127 : 0 ≤ (σ_118 h0 12).toInt ∧ (σ_118 h0 12).toInt ≤ 60 := by have z := hB.2.1 h0 mh0 12; rw [th0] at z; exact z
        have k_128 := FR.row fσ_33 tbg (fun j => by simp)
        have k_129a := congrFun eσ_102 bg
        rw [up2_row _ _ (tg_ne tbg th0 (by decide))] at k_129a
        have k_130 := FR.row fσ_33 tbl (fun j => by simp)
        have k_131a := congrFun eσ_102 bl
        rw [up2_row _ _ (tg_ne tbl th0 (by decide))] at k_131a
        have ex_132 : EX (σ bg) (σ bl) (σ_102 bg) (σ_102 bl) tx := by rw [((k_129a).trans (k_128)), ((k_131a).trans (k_130))]; exact g_26.1
        have ex_133 := EX.tr ex_132 g_123
        obtain ⟨lx_120, ux_120⟩ := g_121
        have k_134 : σ_118 h0 1 = (σ h0 1) := (FR.at fσ_118 th0 (by decide)).trans k_111
        have cq_135 : (σ_118 h0 1).toInt = (σ h0 1).toInt := congrArg Int32.toInt k_134
        refine lv_if_ne (tgt := 66) hx hb dX12_sum_61 (by decide) (fun c_136 => ?_) (fun c_136 => ?_)
        · skip
          have uc_136 := i_ne (n := 0) (by decide) c_136
          have R_137 : RLx σ σ_118 h0 bg bl tx 2 1 := RLx.tr R_104 (g_124 (by omega))
          have R_137n := R_137.2.1
          refine lv_aload_n hx hb dX12_sum_66 rfl (lv_at hl 1 rfl) ?_
          refine lv_iload_n hx hb dX12_sum_67 rfl (lv_at hl 0 rfl) ?_
          refine lv_iconst (v := 0) hx hb dX12_sum_68 (by decide) ?_
          have hPL4 : 0 ≤ (σ_118 bl tx.toNatClampNeg).toInt := (by omega)
          have k_138 : σ_118 h0 11 = tx := (FR.at fσ_118 th0 (by decide)).trans k_117
          refine t_cv (va_runV (As := [.int 2, .int 0]) (rest := []) ⟨hx, hb, hml, hown, hts⟩ (cz_X12_puts l D cA L T r hG hLA.1 σ_118 ρ_119 hB.2.1 _ h0 mh0 th0 2 0 bg hbg mbg tbg bl hbl mbl tbl tx k_138 (by first | omega | decide) (by first | omega | decide) (by omega)) (cV hts mv_X12_puts mw_6_233 rfl rfl ⟨Nat.le_of_ble_eq_true rfl, Nat.le_of_ble_eq_true rfl⟩) (pV hB.1 hK hN mh0 th0 (show shp cA 12 _ _ _ = .inr (12, Fs12 _ _ _) from rfl) rfl) rfl rfl hl.1 rfl (lv_room (Nat.le_of_ble_eq_true rfl)) dX12_sum_69 ⟨Nat.le_of_ble_eq_true rfl, Nat.le_of_ble_eq_true rfl⟩) hLA hA hB hS (by decide) (fun σ_139 ρ_140 H locs hB fσ_139 pσ_139 hS => ?_)
          have w_142 : 0 ≤ (σ_139 bl tx.toNatClampNeg).toInt ∧ (σ_139 bl tx.toNatClampNeg).toInt ≤ 400 := by have z := hB.2.1 bl mbl tx.toNatClampNeg; rw [tbl] at z; exact z
          have k_143 : σ_139 h0 8 = (σ_118 h0 8) := (FR.at fσ_139 th0 (by decide)).trans rfl
          have cq_144 : (σ_139 h0 8).toInt = (σ_118 h0 8).toInt := congrArg Int32.toInt k_143
          have k_145 : σ_139 h0 1 = (σ h0 1) := (FR.at fσ_139 th0 (by decide)).trans k_134
          have cq_146 : (σ_139 h0 1).toInt = (σ h0 1).toInt := congrArg Int32.toInt k_145
          have k_147 : σ_139 h0 12 = (σ_118 h0 12) := (FR.at fσ_139 th0 (by decide)).trans rfl
          have cq_148 : (σ_139 h0 12).toInt = (σ_118 h0 12).toInt := congrArg Int32.toInt k_147
          have ex_149 := EX.tr ex_133 (PU.ex pσ_139 (by have z := hPL4; omega))
          have R_150 : RLx σ σ_139 h0 bg bl tx 1 0 := RLx.bin (k := 0) (s := 0) R_137 pσ_139 (by have z := hPL4; omega) (FR.at fσ_139 th0 (by decide)) (FR.at fσ_139 th0 (by decide)) (stp_bin (by decide))
          have R_150n := R_150.2.1
          refine lv_goto (tgt := 9) hx hb dX12_sum_72 (by decide) ?_
          have k_151 : σ_139 h0 11 = tx := (FR.at fσ_139 th0 (by decide)).trans k_138
          exact ih_22 ⟨σ_139, ρ_140⟩ _ _ _ ⟨k_151, k_145, R_150, (by rw [k_143]; omega), hB, hS, lv_sub hl [1] rfl⟩ (by show (400 - (σ_139 h0 8).toInt).toNat < (400 - (σ_20 h0 8).toInt).toNat; rw [k_143]; omega)
        · skip
          have uc_136 := i_eq (n := 0) (by decide) c_136
          refine lv_iconst (v := 0) hx hb dX12_sum_64 (by decide) ?_
          exact W.zret (v := 0) hx hb hr rfl (fun t ht hW => ⟨⟨0, (σ_118, ρ_119), rfl, ⟨hB.2.1, hB.2.2, ⟨(show 0 ≤ (0 : Int32).toInt ∧ (0 : Int32).toInt ≤ 1 from ⟨by decide, by decide⟩), (show (σ h0 8).toInt ≤ (σ_118 h0 8).toInt from (by omega)), (show EX (σ bg) (σ bl) (σ_118 bg) (σ_118 bl) tx from ex_133), (show (0 : Int32).toInt = 1 → RLx σ σ_118 h0 bg bl tx 1 0 from (fun h => absurd h (by decide)))⟩⟩, (show TP D cA L T r σ_118 ρ_119 t.heap from by rw [ht]; exact hB.1)⟩, hS.F ht⟩) hS.2.2 dX12_sum_65
    · skip
      have uc_47 := i_ne (n := 43) (by decide) c_47
      refine lv_aload_n hx hb dX12_sum_18 rfl (lv_at hl 0 rfl) ?_
      refine t_ci (va_runV (As := []) (rest := []) ⟨hx, hb, hml, hown, hts⟩ (cz_X12_see l D cA L T r hG hLA.1 σ_33 ρ_34 hB.2.1 _ h0 mh0 th0 bt hbt mbt tbt) (cV hts mv_X12_see mw_6_134 rfl rfl ⟨Nat.le_of_ble_eq_true rfl, Nat.le_of_ble_eq_true rfl⟩) (pV hB.1 hK hN mh0 th0 (show shp cA 12 _ _ _ = .inr (12, Fs12 _ _ _) from rfl) rfl) rfl rfl hl.1 rfl (lv_room (Nat.le_of_ble_eq_true rfl)) dX12_sum_19 ⟨Nat.le_of_ble_eq_true rfl, Nat.le_of_ble_eq_true rfl⟩) hLA hA hB hS (by decide) (fun x_154 σ_152 ρ_153 H locs hB fσ_152 pσ_152 hS => ?_)
      obtain ⟨g_155, g_156, g_157, g_158⟩ := pσ_152
      have w_159 : 0 ≤ (σ_152 h0 8).toInt ∧ (σ_152 h0 8).toInt ≤ 400 := by have z := hB.2.1 h0 mh0 8; rw [th0] at z; exact z
      obtain ⟨lx_154, ux_154⟩ := g_155
      have k_160 : σ_152 h0 1 = (σ h0 1) := (FR.at fσ_152 th0 (by decide)).trans k_41
      have cq_161 : (σ_152 h0 1).toInt = (σ h0 1).toInt := congrArg Int32.toInt k_160
      have k_162 : σ_152 h0 12 = (σ_20 h0 12) := (FR.at fσ_152 th0 (by decide)).trans k_43
      have cq_163 : (σ_152 h0 12).toInt = (σ_20 h0 12).toInt := congrArg Int32.toInt k_162
      have k_164 : σ_152 bl tx.toNatClampNeg = (σ_20 bl tx.toNatClampNeg) := (FR.at fσ_152 tbl (by simp)).trans k_45
      have cq_165 : (σ_152 bl tx.toNatClampNeg).toInt = (σ_20 bl tx.toNatClampNeg).toInt := congrArg Int32.toInt k_164
      refine lv_bipush (v := 45) hx hb dX12_sum_22 (by decide) ?_
      refine lv_icmp_ne (tgt := 75) hx hb dX12_sum_24 (by decide) (fun c_166 => ?_) (fun c_166 => ?_)
      · skip
        have uc_166 := i_ne (n := 45) (by decide) c_166
        refine lv_iconst (v := 1) hx hb dX12_sum_75 (by decide) ?_
        have k_167 := FR.row fσ_33 tbg (fun j => by simp)
        have k_168 := FR.row fσ_152 tbg (fun j => by simp)
        have k_169 := FR.row fσ_33 tbl (fun j => by simp)
        have k_170 := FR.row fσ_152 tbl (fun j => by simp)
        have ex_171 : EX (σ bg) (σ bl) (σ_152 bg) (σ_152 bl) tx := by rw [((k_168).trans (k_167)), ((k_170).trans (k_169))]; exact g_26.1
        have k_173 := FR.row fσ_33 tbg (fun j => by simp)
        have k_174 := FR.row fσ_152 tbg (fun j => by simp)
        have k_175 := FR.row fσ_33 tbl (fun j => by simp)
        have k_176 := FR.row fσ_152 tbl (fun j => by simp)
        have R_172 : RLx σ σ_152 h0 bg bl tx 1 0 := RLx.fr 0 g_26 ((k_174).trans (k_173)) ((k_176).trans (k_175)) (by rw [k_162]; omega) (by omega)
        have R_172n := R_172.2.1
        exact W.zret (v := 1) hx hb hr rfl (fun t ht hW => ⟨⟨1, (σ_152, ρ_153), rfl, ⟨hB.2.1, hB.2.2, ⟨(show 0 ≤ (1 : Int32).toInt ∧ (1 : Int32).toInt ≤ 1 from ⟨by decide, by decide⟩), (show (σ h0 8).toInt ≤ (σ_152 h0 8).toInt from (by omega)), (show EX (σ bg) (σ bl) (σ_152 bg) (σ_152 bl) tx from ex_171), (show (1 : Int32).toInt = 1 → RLx σ σ_152 h0 bg bl tx 1 0 from (fun h => R_172))⟩⟩, (show TP D cA L T r σ_152 ρ_153 t.heap from by rw [ht]; exact hB.1)⟩, hS.F ht⟩) hS.2.2 dX12_sum_76
      · skip
        have uc_166 := i_eq (n := 45) (by decide) c_166
        refine lv_aload_n hx hb dX12_sum_27 rfl (lv_at hl 0 rfl) ?_
        refine t_gk hx hb hts hown hK hB mh0 th0 fq_12_0 hbt mw_5_216 dX12_sum_28 ?_
        refine lv_aload_n hx hb dX12_sum_31 rfl (lv_at hl 0 rfl) ?_
        refine t_gv hx hb hts hown hK hB mh0 th0 fi_12_8 rfl mw_5_224 dX12_sum_32 ?_
        refine t_ab hx hb hK hB mbt tbt ai_61 (fun _ => rfl) (i_in (by omega) (by omega)) dX12_sum_35 (fun x_177 ex_177 lx_177 ux_177 => ?_)
        have cx_177 := congrArg Int32.toInt ex_177
        refine lv_bipush (v := 43) hx hb dX12_sum_36 (by decide) ?_
        refine lv_icmp_ne (tgt := 45) hx hb dX12_sum_38 (by decide) (fun c_178 => ?_) (fun c_178 => ?_)
        · skip
          have uc_178 := i_ne (n := 43) (by decide) c_178
          refine lv_iconst (v := 3) hx hb dX12_sum_45 (by decide) ?_
          refine lv_istore_n (lv' := [(1, .int 3), (0, .ref h0)]) hx hb dX12_sum_46 rfl hl (by decide) rfl (fun ls hl => ?_)
          refine lv_aload_n hx hb dX12_sum_47 rfl (lv_at hl 1 rfl) ?_
          refine lv_dup hx hb dX12_sum_48 rfl ?_
          refine t_gv hx hb hts hown hK hB mh0 th0 fi_12_8 rfl mw_5_224 dX12_sum_49 ?_
          refine lv_iconst (v := 1) hx hb dX12_sum_52 (by decide) ?_
          refine lv_iadd hx hb dX12_sum_53 ?_
          refine lv_topi (fun x_179 ex_179 => ?_)
          have vx_179 := b_add (rfl : (σ_152 h0 8).toInt = _) (by decide : (1 : Int32).toInt = 1) ex_179 (by omega) (by omega)
          refine t_pi hx hb hts hown hK hLA hB hS mh0 th0 fi_12_8 rfl rfl rfl (by first | omega | (subst_vars; omega)) (by first | omega | (subst_vars; omega)) (Or.inl (by decide)) mw_5_224 dX12_sum_54 (fun H locs σ_180 eσ_180 hB hS => ?_)
          have k_181 : σ_180 h0 8 = x_179 := by rw [eσ_180]; exact up2_same _ _ _ _
          refine lv_aload_n hx hb dX12_sum_57 rfl (lv_at hl 1 rfl) ?_
          have k_183 := FR.row fσ_33 tbg (fun j => by simp)
          have k_184 := FR.row fσ_152 tbg (fun j => by simp)
          have k_185a := congrFun eσ_180 bg
          rw [up2_row _ _ (tg_ne tbg th0 (by decide))] at k_185a
          have k_186 := FR.row fσ_33 tbl (fun j => by simp)
          have k_187 := FR.row fσ_152 tbl (fun j => by simp)
          have k_188a := congrFun eσ_180 bl
          rw [up2_row _ _ (tg_ne tbl th0 (by decide))] at k_188a
          have k_189 : σ_180 h0 12 = (σ_20 h0 12) := by rw [eσ_180, up2_nej _ _ (by decide)]; exact k_162
          have R_182 : RLx σ σ_180 h0 bg bl tx 1 1 := RLx.fr 1 g_26 ((k_185a).trans ((k_184).trans (k_183))) ((k_188a).trans ((k_187).trans (k_186))) (by rw [k_189]; omega) (by rw [k_181]; omega)
          have R_182n := R_182.2.1
          have cq_190 : (σ_180 h0 8).toInt = x_179.toInt := congrArg Int32.toInt k_181
          have k_191 : σ_180 h0 1 = (σ h0 1) := by rw [eσ_180, up2_nej _ _ (by decide)]; exact k_160
          have cq_192 : (σ_180 h0 1).toInt = (σ h0 1).toInt := congrArg Int32.toInt k_191
          have cq_193 : (σ_180 h0 12).toInt = (σ_20 h0 12).toInt := congrArg Int32.toInt k_189
          have k_194 : σ_180 bl tx.toNatClampNeg = (σ_20 bl tx.toNatClampNeg) := by rw [eσ_180, up2_nea _ _ (tg_ne tbl th0 (by decide))]; exact k_164
          have cq_195 : (σ_180 bl tx.toNatClampNeg).toInt = (σ_20 bl tx.toNatClampNeg).toInt := congrArg Int32.toInt k_194
          have k_196 : σ_33 h0 11 = tx := (FR.at fσ_33 th0 (by decide)).trans k_23
          have k_197 : σ_152 h0 11 = tx := (FR.at fσ_152 th0 (by decide)).trans k_196
          have k_198 : σ_180 h0 11 = tx := by rw [eσ_180, up2_nej _ _ (by decide)]; exact k_197
          refine t_ci (va_runV (As := []) (rest := []) ⟨hx, hb, hml, hown, hts⟩ (cz_X12_term l D cA L T r hG hLA.1 σ_180 ρ_153 hB.2.1 _ h0 mh0 th0 bt hbt mbt tbt bg hbg mbg tbg bl hbl mbl tbl tx k_198 (by first | omega | decide) (by first | omega | decide) (by omega)) (cV hts mv_X12_term mw_6_220 rfl rfl ⟨Nat.le_of_ble_eq_true rfl, Nat.le_of_ble_eq_true rfl⟩) (pV hB.1 hK hN mh0 th0 (show shp cA 12 _ _ _ = .inr (12, Fs12 _ _ _) from rfl) rfl) rfl rfl hl.1 rfl (lv_room (Nat.le_of_ble_eq_true rfl)) dX12_sum_58 ⟨Nat.le_of_ble_eq_true rfl, Nat.le_of_ble_eq_true rfl⟩) hLA hA hB hS (by decide) (fun x_201 σ_199 ρ_200 H locs hB fσ_199 pσ_199 hS => ?_)
          obtain ⟨g_202, g_203, g_204, g_205⟩ := pσ_199
          have w_206 : 0 ≤ (σ_199 bl tx.toNatClampNeg).toInt ∧ (σ_199 bl tx.toNatClampNeg).toInt ≤ 400 := by have z := hB.2.1 bl mbl tx.toNatClampNeg; rw [tbl] at z; exact z
          have w_207 : 0 ≤ (σ_199 h0 8).toInt ∧ (σ_199 h0 8).toInt ≤ 400 := by have z := hB.2.1 h0 mh0 8; rw [th0] at z; exact z
          have w_208 : 0 ≤ (σ_199 h0 12).toInt ∧ (σ_199 h0 12).toInt ≤ 60 := by have z := hB.2.1 h0 mh0 12; rw [th0] at z; exact z
          have k_209 := FR.row fσ_33 tbg (fun j => by simp)
          have k_210 := FR.row fσ_152 tbg (fun j => by simp)
          have k_211a := congrFun eσ_180 bg
          rw [up2_row _ _ (tg_ne tbg th0 (by decide))] at k_211a
          have k_212 := FR.row fσ_33 tbl (fun j => by simp)
          have k_213 := FR.row fσ_152 tbl (fun j => by simp)
          have k_214a := congrFun eσ_180 bl
          rw [up2_row _ _ (tg_ne tbl th0 (by decide))] at k_214a
          have ex_215 : EX (σ bg) (σ bl) (σ_180 bg) (σ_180 bl) tx := by rw [((k_211a).trans ((k_210).trans (k_209))), ((k_214a).trans ((k_213).trans (k_212)))]; exact g_26.1
          have ex_216 := EX.tr ex_215 g_204
          obtain ⟨lx_201, ux_201⟩ := g_202
          have k_217 : σ_199 h0 1 = (σ h0 1) := (FR.at fσ_199 th0 (by decide)).trans k_191
          have cq_218 : (σ_199 h0 1).toInt = (σ h0 1).toInt := congrArg Int32.toInt k_217
          refine lv_if_ne (tgt := 66) hx hb dX12_sum_61 (by decide) (fun c_219 => ?_) (fun c_219 => ?_)
          · skip
            have uc_219 := i_ne (n := 0) (by decide) c_219
            have R_220 : RLx σ σ_199 h0 bg bl tx 2 1 := RLx.tr R_182 (g_205 (by omega))
            have R_220n := R_220.2.1
            refine lv_aload_n hx hb dX12_sum_66 rfl (lv_at hl 1 rfl) ?_
            refine lv_iload_n hx hb dX12_sum_67 rfl (lv_at hl 0 rfl) ?_
            refine lv_iconst (v := 0) hx hb dX12_sum_68 (by decide) ?_
            have hPL5 : 0 ≤ (σ_199 bl tx.toNatClampNeg).toInt := (by omega)
            have k_221 : σ_199 h0 11 = tx := (FR.at fσ_199 th0 (by decide)).trans k_198
            refine t_cv (va_runV (As := [.int 3, .int 0]) (rest := []) ⟨hx, hb, hml, hown, hts⟩ (cz_X12_puts l D cA L T r hG hLA.1 σ_199 ρ_200 hB.2.1 _ h0 mh0 th0 3 0 bg hbg mbg tbg bl hbl mbl tbl tx k_221 (by first | omega | decide) (by first | omega | decide) (by omega)) (cV hts mv_X12_puts mw_6_233 rfl rfl ⟨Nat.le_of_ble_eq_true rfl, Nat.le_of_ble_eq_true rfl⟩) (pV hB.1 hK hN mh0 th0 (show shp cA 12 _ _ _ = .inr (12, Fs12 _ _ _) from rfl) rfl) rfl rfl hl.1 rfl (lv_room (Nat.le_of_ble_eq_true rfl)) dX12_sum_69 ⟨Nat.le_of_ble_eq_true rfl, Nat.le_of_ble_eq_true rfl⟩) hLA hA hB hS (by decide) (fun σ_222 ρ_223 H locs hB fσ_222 pσ_222 hS => ?_)
            have w_225 : 0 ≤ (σ_222 bl tx.toNatClampNeg).toInt ∧ (σ_222 bl tx.toNatClampNeg).toInt ≤ 400 := by have z := hB.2.1 bl mbl tx.toNatClampNeg; rw [tbl] at z; exact z
            have k_226 : σ_222 h0 8 = (σ_199 h0 8) := (FR.at fσ_222 th0 (by decide)).trans rfl
            have cq_227 : (σ_222 h0 8).toInt = (σ_199 h0 8).toInt := congrArg Int32.toInt k_226
            have k_228 : σ_222 h0 1 = (σ h0 1) := (FR.at fσ_222 th0 (by decide)).trans k_217
            have cq_229 : (σ_222 h0 1).toInt = (σ h0 1).toInt := congrArg Int32.toInt k_228
            have k_230 : σ_222 h0 12 = (σ_199 h0 12) := (FR.at fσ_222 th0 (by decide)).trans rfl
            have cq_231 : (σ_222 h0 12).toInt = (σ_199 h0 12).toInt := congrArg Int32.toInt k_230
            have ex_232 := EX.tr ex_216 (PU.ex pσ_222 (by have z := hPL5; omega))
            have R_233 : RLx σ σ_222 h0 bg bl tx 1 0 := RLx.bin (k := 0) (s := 0) R_220 pσ_222 (by have z := hPL5; omega) (FR.at fσ_222 th0 (by decide)) (FR.at fσ_222 th0 (by decide)) (stp_bin (by decide))
            have R_233n := R_233.2.1
            refine lv_goto (tgt := 9) hx hb dX12_sum_72 (by decide) ?_
            have k_234 : σ_222 h0 11 = tx := (FR.at fσ_222 th0 (by decide)).trans k_221
            exact ih_22 ⟨σ_222, ρ_223⟩ _ _ _ ⟨k_234, k_228, R_233, (by rw [k_226]; omega), hB, hS, lv_sub hl [1] rfl⟩ (by show (400 - (σ_222 h0 8).toInt).toNat < (400 - (σ_20 h0 8).toInt).toNat; rw [k_226]; omega)
          · skip
            have uc_219 := i_eq (n := 0) (by decide) c_219
            refine lv_iconst (v := 0) hx hb dX12_sum_64 (by decide) ?_
            exact W.zret (v := 0) hx hb hr rfl (fun t ht hW => ⟨⟨0, (σ_199, ρ_200), rfl, ⟨hB.2.1, hB.2.2, ⟨(show 0 ≤ (0 : Int32).toInt ∧ (0 : Int32).toInt ≤ 1 from ⟨by decide, by decide⟩), (show (σ h0 8).toInt ≤ (σ_199 h0 8).toInt from (by omega)), (show EX (σ bg) (σ bl) (σ_199 bg) (σ_199 bl) tx from ex_216), (show (0 : Int32).toInt = 1 → RLx σ σ_199 h0 bg bl tx 1 0 from (fun h => absurd h (by decide)))⟩⟩, (show TP D cA L T r σ_199 ρ_200 t.heap from by rw [ht]; exact hB.1)⟩, hS.F ht⟩) hS.2.2 dX12_sum_65
        · skip
          have uc_178 := i_eq (n := 43) (by decide) c_178
          refine lv_iconst (v := 2) hx hb dX12_sum_41 (by decide) ?_
          refine lv_goto (tgt := 46) hx hb dX12_sum_42 (by decide) ?_
          refine lv_istore_n (lv' := [(1, .int 2), (0, .ref h0)]) hx hb dX12_sum_46 rfl hl (by decide) rfl (fun ls hl => ?_)
          refine lv_aload_n hx hb dX12_sum_47 rfl (lv_at hl 1 rfl) ?_
          refine lv_dup hx hb dX12_sum_48 rfl ?_
          refine t_gv hx hb hts hown hK hB mh0 th0 fi_12_8 rfl mw_5_224 dX12_sum_49 ?_
          refine lv_iconst (v := 1) hx hb dX12_sum_52 (by decide) ?_
          refine lv_iadd hx hb dX12_sum_53 ?_
          refine lv_topi (fun x_235 ex_235 => ?_)
          have vx_235 := b_add (rfl : (σ_152 h0 8).toInt = _) (by decide : (1 : Int32).toInt = 1) ex_235 (by omega) (by omega)
          refine t_pi hx hb hts hown hK hLA hB hS mh0 th0 fi_12_8 rfl rfl rfl (by first | omega | (subst_vars; omega)) (by first | omega | (subst_vars; omega)) (Or.inl (by decide)) mw_5_224 dX12_sum_54 (fun H locs σ_236 eσ_236 hB hS => ?_)
          have k_237 : σ_236 h0 8 = x_235 := by rw [eσ_236]; exact up2_same _ _ _ _
          refine lv_aload_n hx hb dX12_sum_57 rfl (lv_at hl 1 rfl) ?_
          have k_239 := FR.row fσ_33 tbg (fun j => by simp)
          have k_240 := FR.row fσ_152 tbg (fun j => by simp)
          have k_241a := congrFun eσ_236 bg
          rw [up2_row _ _ (tg_ne tbg th0 (by decide))] at k_241a
          have k_242 := FR.row fσ_33 tbl (fun j => by simp)
          have k_243 := FR.row fσ_152 tbl (fun j => by simp)
          have k_244a := congrFun eσ_236 bl
          rw [up2_row _ _ (tg_ne tbl th0 (by decide))] at k_244a
          have k_245 : σ_236 h0 12 = (σ_20 h0 12) := by rw [eσ_236, up2_nej _ _ (by decide)]; exact k_162
          have R_238 : RLx σ σ_236 h0 bg bl tx 1 1 := RLx.fr 1 g_26 ((k_241a).trans ((k_240).trans (k_239))) ((k_244a).trans ((k_243).trans (k_242))) (by rw [k_245]; omega) (by rw [k_237]; omega)
          have R_238n := R_238.2.1
          have cq_246 : (σ_236 h0 8).toInt = x_235.toInt := congrArg Int32.toInt k_237
          have k_247 : σ_236 h0 1 = (σ h0 1) := by rw [eσ_236, up2_nej _ _ (by decide)]; exact k_160
          have cq_248 : (σ_236 h0 1).toInt = (σ h0 1).toInt := congrArg Int32.toInt k_247
          have cq_249 : (σ_236 h0 12).toInt = (σ_20 h0 12).toInt := congrArg Int32.toInt k_245
          have k_250 : σ_236 bl tx.toNatClampNeg = (σ_20 bl tx.toNatClampNeg) := by rw [eσ_236, up2_nea _ _ (tg_ne tbl th0 (by decide))]; exact k_164
          have cq_251 : (σ_236 bl tx.toNatClampNeg).toInt = (σ_20 bl tx.toNatClampNeg).toInt := congrArg Int32.toInt k_250
          have k_252 : σ_33 h0 11 = tx := (FR.at fσ_33 th0 (by decide)).trans k_23
          have k_253 : σ_152 h0 11 = tx := (FR.at fσ_152 th0 (by decide)).trans k_252
          have k_254 : σ_236 h0 11 = tx := by rw [eσ_236, up2_nej _ _ (by decide)]; exact k_253
          refine t_ci (va_runV (As := []) (rest := []) ⟨hx, hb, hml, hown, hts⟩ (cz_X12_term l D cA L T r hG hLA.1 σ_236 ρ_153 hB.2.1 _ h0 mh0 th0 bt hbt mbt tbt bg hbg mbg tbg bl hbl mbl tbl tx k_254 (by first | omega | decide) (by first | omega | decide) (by omega)) (cV hts mv_X12_term mw_6_220 rfl rfl ⟨Nat.le_of_ble_eq_true rfl, Nat.le_of_ble_eq_true rfl⟩) (pV hB.1 hK hN mh0 th0 (show shp cA 12 _ _ _ = .inr (12, Fs12 _ _ _) from rfl) rfl) rfl rfl hl.1 rfl (lv_room (Nat.le_of_ble_eq_true rfl)) dX12_sum_58 ⟨Nat.le_of_ble_eq_true rfl, Nat.le_of_ble_eq_true rfl⟩) hLA hA hB hS (by decide) (fun x_257 σ_255 ρ_256 H locs hB fσ_255 pσ_255 hS => ?_)
          obtain ⟨g_258, g_259, g_260, g_261⟩ := pσ_255
          have w_262 : 0 ≤ (σ_255 bl tx.toNatClampNeg).toInt ∧ (σ_255 bl tx.toNatClampNeg).toInt ≤ 400 := by have z := hB.2.1 bl mbl tx.toNatClampNeg; rw [tbl] at z; exact z
          have w_263 : 0 ≤ (σ_255 h0 8).toInt ∧ (σ_255 h0 8).toInt ≤ 400 := by have z := hB.2.1 h0 mh0 8; rw [th0] at z; exact z
          have w_264 : 0 ≤ (σ_255 h0 12).toInt ∧ (σ_255 h0 12).toInt ≤ 60 := by have z := hB.2.1 h0 mh0 12; rw [th0] at z; exact z
          have k_265 := FR.row fσ_33 tbg (fun j => by simp)
          have k_266 := FR.row fσ_152 tbg (fun j => by simp)
          have k_267a := congrFun eσ_236 bg
          rw [up2_row _ _ (tg_ne tbg th0 (by decide))] at k_267a
          have k_268 := FR.row fσ_33 tbl (fun j => by simp)
          have k_269 := FR.row fσ_152 tbl (fun j => by simp)
          have k_270a := congrFun eσ_236 bl
          rw [up2_row _ _ (tg_ne tbl th0 (by decide))] at k_270a
          have ex_271 : EX (σ bg) (σ bl) (σ_236 bg) (σ_236 bl) tx := by rw [((k_267a).trans ((k_266).trans (k_265))), ((k_270a).trans ((k_269).trans (k_268)))]; exact g_26.1
          have ex_272 := EX.tr ex_271 g_260
          obtain ⟨lx_257, ux_257⟩ := g_258
          have k_273 : σ_255 h0 1 = (σ h0 1) := (FR.at fσ_255 th0 (by decide)).trans k_247
          have cq_274 : (σ_255 h0 1).toInt = (σ h0 1).toInt := congrArg Int32.toInt k_273
          refine lv_if_ne (tgt := 66) hx hb dX12_sum_61 (by decide) (fun c_275 => ?_) (fun c_275 => ?_)
          · skip
            have uc_275 := i_ne (n := 0) (by decide) c_275
            have R_276 : RLx σ σ_255 h0 bg bl tx 2 1 := RLx.tr R_238 (g_261 (by omega))
            have R_276n := R_276.2.1
            refine lv_aload_n hx hb dX12_sum_66 rfl (lv_at hl 1 rfl) ?_
            refine lv_iload_n hx hb dX12_sum_67 rfl (lv_at hl 0 rfl) ?_
            refine lv_iconst (v := 0) hx hb dX12_sum_68 (by decide) ?_
            have hPL5 : 0 ≤ (σ_255 bl tx.toNatClampNeg).toInt := (by omega)
            have k_277 : σ_255 h0 11 = tx := (FR.at fσ_255 th0 (by decide)).trans k_254
            refine t_cv (va_runV (As := [.int 2, .int 0]) (rest := []) ⟨hx, hb, hml, hown, hts⟩ (cz_X12_puts l D cA L T r hG hLA.1 σ_255 ρ_256 hB.2.1 _ h0 mh0 th0 2 0 bg hbg mbg tbg bl hbl mbl tbl tx k_277 (by first | omega | decide) (by first | omega | decide) (by omega)) (cV hts mv_X12_puts mw_6_233 rfl rfl ⟨Nat.le_of_ble_eq_true rfl, Nat.le_of_ble_eq_true rfl⟩) (pV hB.1 hK hN mh0 th0 (show shp cA 12 _ _ _ = .inr (12, Fs12 _ _ _) from rfl) rfl) rfl rfl hl.1 rfl (lv_room (Nat.le_of_ble_eq_true rfl)) dX12_sum_69 ⟨Nat.le_of_ble_eq_true rfl, Nat.le_of_ble_eq_true rfl⟩) hLA hA hB hS (by decide) (fun σ_278 ρ_279 H locs hB fσ_278 pσ_278 hS => ?_)
            have w_281 : 0 ≤ (σ_278 bl tx.toNatClampNeg).toInt ∧ (σ_278 bl tx.toNatClampNeg).toInt ≤ 400 := by have z := hB.2.1 bl mbl tx.toNatClampNeg; rw [tbl] at z; exact z
            have k_282 : σ_278 h0 8 = (σ_255 h0 8) := (FR.at fσ_278 th0 (by decide)).trans rfl
            have cq_283 : (σ_278 h0 8).toInt = (σ_255 h0 8).toInt := congrArg Int32.toInt k_282
            have k_284 : σ_278 h0 1 = (σ h0 1) := (FR.at fσ_278 th0 (by decide)).trans k_273
            have cq_285 : (σ_278 h0 1).toInt = (σ h0 1).toInt := congrArg Int32.toInt k_284
            have k_286 : σ_278 h0 12 = (σ_255 h0 12) := (FR.at fσ_278 th0 (by decide)).trans rfl
            have cq_287 : (σ_278 h0 12).toInt = (σ_255 h0 12).toInt := congrArg Int32.toInt k_286
            have ex_288 := EX.tr ex_272 (PU.ex pσ_278 (by have z := hPL5; omega))
            have R_289 : RLx σ σ_278 h0 bg bl tx 1 0 := RLx.bin (k := 0) (s := 0) R_276 pσ_278 (by have z := hPL5; omega) (FR.at fσ_278 th0 (by decide)) (FR.at fσ_278 th0 (by decide)) (stp_bin (by decide))
            have R_289n := R_289.2.1
            refine lv_goto (tgt := 9) hx hb dX12_sum_72 (by decide) ?_
            have k_290 : σ_278 h0 11 = tx := (FR.at fσ_278 th0 (by decide)).trans k_277
            exact ih_22 ⟨σ_278, ρ_279⟩ _ _ _ ⟨k_290, k_284, R_289, (by rw [k_282]; omega), hB, hS, lv_sub hl [1] rfl⟩ (by show (400 - (σ_278 h0 8).toInt).toNat < (400 - (σ_20 h0 8).toInt).toNat; rw [k_282]; omega)
          · skip
            have uc_275 := i_eq (n := 0) (by decide) c_275
            refine lv_iconst (v := 0) hx hb dX12_sum_64 (by decide) ?_
            exact W.zret (v := 0) hx hb hr rfl (fun t ht hW => ⟨⟨0, (σ_255, ρ_256), rfl, ⟨hB.2.1, hB.2.2, ⟨(show 0 ≤ (0 : Int32).toInt ∧ (0 : Int32).toInt ≤ 1 from ⟨by decide, by decide⟩), (show (σ h0 8).toInt ≤ (σ_255 h0 8).toInt from (by omega)), (show EX (σ bg) (σ bl) (σ_255 bg) (σ_255 bl) tx from ex_272), (show (0 : Int32).toInt = 1 → RLx σ σ_255 h0 bg bl tx 1 0 from (fun h => absurd h (by decide)))⟩⟩, (show TP D cA L T r σ_255 ρ_256 t.heap from by rw [ht]; exact hB.1)⟩, hS.F ht⟩) hS.2.2 dX12_sum_65
  · skip
    have uc_18 := i_eq (n := 0) (by decide) c_18
    refine lv_iconst (v := 0) hx hb dX12_sum_7 (by decide) ?_
    exact W.zret (v := 0) hx hb hr rfl (fun t ht hW => ⟨⟨0, (σ_5, ρ_6), rfl, ⟨hB.2.1, hB.2.2, ⟨(show 0 ≤ (0 : Int32).toInt ∧ (0 : Int32).toInt ≤ 1 from ⟨by decide, by decide⟩), (show (σ h0 8).toInt ≤ (σ_5 h0 8).toInt from (by omega)), (show EX (σ bg) (σ bl) (σ_5 bg) (σ_5 bl) tx from ex_15), (show (0 : Int32).toInt = 1 → RLx σ σ_5 h0 bg bl tx 1 0 from (fun h => absurd h (by decide)))⟩⟩, (show TP D cA L T r σ_5 ρ_6 t.heap from by rw [ht]; exact hB.1)⟩, hS.F ht⟩) hS.2.2 dX12_sum_8
