theorem mw_6_156 : (.constantLong RX12 262 6386539 : Cond) ∈ wsA := wsA_t (List.mem_append_right _ (List.mem_append_right _ (List.mem_append_right _ (List.mem_append_right _ (List.mem_append_right _ (List.mem_append_left _ (List.mem_of_getElem? (l := tables_1_6) (i := 156) rfl))))))) rfl
theorem mw_5_230 : (.fieldLink RX12 264 "HillBendsModel" "lines" "I" : Cond) ∈ wsA := wsA_t (List.mem_append_right _ (List.mem_append_right _ (List.mem_append_right _ (List.mem_append_right _ (List.mem_append_left _ (List.mem_of_getElem? (l := tables_1_5) (i := 230) rfl)))))) rfl
theorem mw_6_214 : (.instanceMethod yX12_isAskHere : Cond) ∈ wsA := wsA_t (List.mem_append_right _ (List.mem_append_right _ (List.mem_append_right _ (List.mem_append_right _ (List.mem_append_right _ (List.mem_append_left _ (List.mem_of_getElem? (l := tables_1_6) (i := 214) rfl))))))) rfl
theorem mp_4_14 : (.selects RX12 yX12_isAskHere yX12_isAskHere : Cond) ∈ wsA := wsA_p (q := (yX12_isAskHere, 44)) (List.mem_append_right _ (List.mem_append_right _ (List.mem_append_right _ (List.mem_append_left _ (List.mem_of_getElem? (l := lw_privs_4) (i := 14) rfl)))))
theorem mw_6_215 : (.code yX12_isAskHere cX12_isAskHere 2 (some .boolean) : Cond) ∈ wsA := wsA_t (List.mem_append_right _ (List.mem_append_right _ (List.mem_append_right _ (List.mem_append_right _ (List.mem_append_right _ (List.mem_append_left _ (List.mem_of_getElem? (l := tables_1_6) (i := 215) rfl))))))) rfl
theorem mw_6_212 : (.methodLink RX12 270 yX12_isAskHere : Cond) ∈ wsA := wsA_t (List.mem_append_right _ (List.mem_append_right _ (List.mem_append_right _ (List.mem_append_right _ (List.mem_append_right _ (List.mem_append_left _ (List.mem_of_getElem? (l := tables_1_6) (i := 212) rfl))))))) rfl
theorem dX12_clauseHere_0 : decode cX12_clauseHere 0 = .ok (.aload_n 0, 1) := by decide +kernel
theorem dX12_clauseHere_1 : decode cX12_clauseHere 1 = .ok (.invokevirtual 105, 3) := by decide +kernel
theorem dX12_clauseHere_4 : decode cX12_clauseHere 4 = .ok (.pop, 1) := by decide +kernel
theorem dX12_clauseHere_5 : decode cX12_clauseHere 5 = .ok (.aload_n 0, 1) := by decide +kernel
theorem dX12_clauseHere_6 : decode cX12_clauseHere 6 = .ok (.getfield 102, 3) := by decide +kernel
theorem dX12_clauseHere_9 : decode cX12_clauseHere 9 = .ok (.istore_n 1, 1) := by decide +kernel
theorem dX12_clauseHere_10 : decode cX12_clauseHere 10 = .ok (.aload_n 0, 1) := by decide +kernel
theorem dX12_clauseHere_11 : decode cX12_clauseHere 11 = .ok (.getfield 154, 3) := by decide +kernel
theorem dX12_clauseHere_14 : decode cX12_clauseHere 14 = .ok (.bipush 6, 2) := by decide +kernel
theorem dX12_clauseHere_16 : decode cX12_clauseHere 16 = .ok (.if_icmp .ne 7, 3) := by decide +kernel
theorem dX12_clauseHere_23 : decode cX12_clauseHere 23 = .ok (.iconst 0, 1) := by decide +kernel
theorem dX12_clauseHere_24 : decode cX12_clauseHere 24 = .ok (.istore_n 2, 1) := by decide +kernel
theorem dX12_clauseHere_25 : decode cX12_clauseHere 25 = .ok (.iload_n 2, 1) := by decide +kernel
theorem dX12_clauseHere_26 : decode cX12_clauseHere 26 = .ok (.ifCond .eq 13, 3) := by decide +kernel
theorem dX12_clauseHere_39 : decode cX12_clauseHere 39 = .ok (.aload_n 0, 1) := by decide +kernel
theorem dX12_clauseHere_40 : decode cX12_clauseHere 40 = .ok (.ldc2_w 262, 3) := by decide +kernel
theorem dX12_clauseHere_43 : decode cX12_clauseHere 43 = .ok (.invokevirtual 113, 3) := by decide +kernel
theorem dX12_clauseHere_46 : decode cX12_clauseHere 46 = .ok (.ifCond .ne 10, 3) := by decide +kernel
theorem dX12_clauseHere_56 : decode cX12_clauseHere 56 = .ok (.aload_n 0, 1) := by decide +kernel
theorem dX12_clauseHere_57 : decode cX12_clauseHere 57 = .ok (.getfield 264, 3) := by decide +kernel
theorem dX12_clauseHere_60 : decode cX12_clauseHere 60 = .ok (.iload_n 2, 1) := by decide +kernel
theorem dX12_clauseHere_61 : decode cX12_clauseHere 61 = .ok (.ifCond .eq 8, 3) := by decide +kernel
theorem dX12_clauseHere_69 : decode cX12_clauseHere 69 = .ok (.bipush 12, 2) := by decide +kernel
theorem dX12_clauseHere_71 : decode cX12_clauseHere 71 = .ok (.if_icmp .ne 10, 3) := by decide +kernel
theorem dX12_clauseHere_81 : decode cX12_clauseHere 81 = .ok (.aload_n 0, 1) := by decide +kernel
theorem dX12_clauseHere_82 : decode cX12_clauseHere 82 = .ok (.dup, 1) := by decide +kernel
theorem dX12_clauseHere_83 : decode cX12_clauseHere 83 = .ok (.getfield 264, 3) := by decide +kernel
theorem dX12_clauseHere_86 : decode cX12_clauseHere 86 = .ok (.iconst 1, 1) := by decide +kernel
theorem dX12_clauseHere_87 : decode cX12_clauseHere 87 = .ok (.iadd, 1) := by decide +kernel
theorem dX12_clauseHere_88 : decode cX12_clauseHere 88 = .ok (.putfield 264, 3) := by decide +kernel
theorem dX12_clauseHere_91 : decode cX12_clauseHere 91 = .ok (.iload_n 2, 1) := by decide +kernel
theorem dX12_clauseHere_92 : decode cX12_clauseHere 92 = .ok (.ifCond .eq 11, 3) := by decide +kernel
theorem dX12_clauseHere_103 : decode cX12_clauseHere 103 = .ok (.aload_n 0, 1) := by decide +kernel
theorem dX12_clauseHere_104 : decode cX12_clauseHere 104 = .ok (.invokevirtual 270, 3) := by decide +kernel
theorem dX12_clauseHere_107 : decode cX12_clauseHere 107 = .ok (.ireturn, 1) := by decide +kernel
theorem dX12_clauseHere_74 : decode cX12_clauseHere 74 = .ok (.aload_n 0, 1) := by decide +kernel
theorem dX12_clauseHere_75 : decode cX12_clauseHere 75 = .ok (.iconst 4, 1) := by decide +kernel
theorem dX12_clauseHere_76 : decode cX12_clauseHere 76 = .ok (.iload_n 1, 1) := by decide +kernel
theorem dX12_clauseHere_77 : decode cX12_clauseHere 77 = .ok (.invokevirtual 123, 3) := by decide +kernel
theorem dX12_clauseHere_80 : decode cX12_clauseHere 80 = .ok (.ireturn, 1) := by decide +kernel
theorem dX12_clauseHere_49 : decode cX12_clauseHere 49 = .ok (.aload_n 0, 1) := by decide +kernel
theorem dX12_clauseHere_50 : decode cX12_clauseHere 50 = .ok (.iconst 0, 1) := by decide +kernel
theorem dX12_clauseHere_51 : decode cX12_clauseHere 51 = .ok (.iload_n 1, 1) := by decide +kernel
theorem dX12_clauseHere_52 : decode cX12_clauseHere 52 = .ok (.invokevirtual 123, 3) := by decide +kernel
theorem dX12_clauseHere_55 : decode cX12_clauseHere 55 = .ok (.ireturn, 1) := by decide +kernel
theorem mv_X12_isAskHere : MV RX12 yX12_isAskHere cX12_isAskHere 2 (some .boolean) 0 := ⟨mw_6_214, mp_4_14, mw_1_13, mw_6_215, ⟨rfl, by decide, by decide, by decide +kernel⟩⟩
set_option maxHeartbeats 4000000 in
set_option maxRecDepth 100000 in
theorem cz_X12_clauseHere_r (l : Launch) (D : va_G) (cA : Nat → ClassId) (L : List Nat) (T : Nat → Nat) (r : Rg) (hG : GR L T r) (hL : L.Nodup) (σ : Sg) (ρ : Lg) (hW : WT L ry T σ) (sz : Nat) (h0 : Nat) (mh0 : h0 ∈ L) (th0 : T h0 = 12) (bt : Nat) (hbt : r h0 0 = some bt) (mbt : bt ∈ L) (tbt : T bt = 61) (bg : Nat) (hbg : r h0 3 = some bg) (mbg : bg ∈ L) (tbg : T bg = 62) (bl : Nat) (hbl : r h0 4 = some bl) (mbl : bl ∈ L) (tbl : T bl = 63) (bk : Nat) (hbk : r h0 5 = some bk) (mbk : bk ∈ L) (tbk : T bk = 64) (bc : Nat) (hbc : r h0 6 = some bc) (mbc : bc ∈ L) (tbc : T bc = 65) (tx : Int32) (k0 : σ h0 11 = tx) (w0 : 0 ≤ tx.toInt) (w1 : tx.toInt ≤ 5) (w2 : (σ bl tx.toNatClampNeg).toInt ≤ (σ h0 8).toInt ∧ (σ bc tx.toNatClampNeg).toInt ≤ (σ h0 14).toInt ∧ 0 ≤ (σ h0 14).toInt ∧ (σ h0 14).toInt ≤ 12) : Met l yX12_clauseHere (.code yX12_clauseHere cX12_clauseHere 3 (some .boolean) :: wsA) ({ frames := 10, cells := 0, slots := 0, locals := 219 }) (PR D cA L T r σ ρ sz [.ref h0]) (QI D cA L T r ry [(12, 8), (12, 9), (12, 10), (12, 12), (12, 13), (12, 14), (12, 16), (62, 1000), (63, 1000), (64, 1000), (65, 1000), (67, 1000)] σ sz (fun x σ1 => (0 ≤ x.toInt ∧ x.toInt ≤ 1) ∧ ((σ h0 8).toInt ≤ (σ1 h0 8).toInt) ∧ (EX (σ bg) (σ bl) (σ1 bg) (σ1 bl) tx) ∧ (KX (σ bk) (σ1 bk) (σ bc) (σ1 bc) tx) ∧ (WP (σ bg) (σ bk) (σ bl) (σ bc tx.toNatClampNeg).toInt.toNat tx → WP (σ1 bg) (σ1 bk) (σ1 bl) (σ1 bc tx.toNatClampNeg).toInt.toNat tx) ∧ (x.toInt = 1 → (σ1 bl tx.toNatClampNeg).toInt ≤ (σ1 h0 8).toInt ∧ (σ1 bc tx.toNatClampNeg).toInt ≤ (σ1 h0 14).toInt ∧ 0 ≤ (σ1 h0 14).toInt ∧ (σ1 h0 14).toInt ≤ 12))) 0 0 (dm L sz) := by
  refine Met.ofW (cc := cX12_clauseHere) (maxL := 3) (ret := (some .boolean)) (by decide) rfl ?_
  intro p e s m args below meth c s₁ B hml hv
  obtain ⟨rfl, hsz, hP, hK, hN⟩ := hv
  have hx := B.exec
  have hb := B.bytes
  have hr := B.returns
  have hts : ∀ w ∈ wsA, w.before _ s = true := fun w h => atoms_spec (ws := .code yX12_clauseHere cX12_clauseHere 3 (some .boolean) :: wsA) B.pre w (List.mem_cons_of_mem _ h)
  have hown : s.vm.findClass RX12 = some m.cls := findClass_of_methodNamed B.named
  subst hsz
  have hLA : LA (dm L s.heap.size) L := ⟨hL, fun a h => Or.inl h⟩
  have hA : ∀ q : Nat, s.heap.size ≤ q → dm L s.heap.size q := fun q h => Or.inr h
  have hS : va_S (dm L s.heap.size) s.heap s.heap [] := va_S.rf
  have hB : TS D cA L T r ry [(12, 8), (12, 9), (12, 10), (12, 12), (12, 13), (12, 14), (12, 16), (62, 1000), (63, 1000), (64, 1000), (65, 1000), (67, 1000)] σ σ ρ s.heap := ⟨hP, hW, FR.rf⟩
  have hl := lv_entry ([.ref h0]) (n := 3) (Nat.le_of_ble_eq_true rfl)
  rw [lg_entry_eq]
  generalize (lg_sl ([.ref h0]) ++ List.replicate (3 - (lg_sl ([.ref h0])).length) Slot.unset).toArray = ls at hl ⊢
  have hl : lv_has ls 3 [(0, .ref h0)] := hl
  have w_1 : 0 ≤ (σ h0 8).toInt ∧ (σ h0 8).toInt ≤ 400 := by have z := hB.2.1 h0 mh0 8; rw [th0] at z; exact z
  have w_2 : 0 ≤ (σ h0 1).toInt ∧ (σ h0 1).toInt ≤ 400 := by have z := hB.2.1 h0 mh0 1; rw [th0] at z; exact z
  have w_3 : 0 ≤ (σ h0 12).toInt ∧ (σ h0 12).toInt ≤ 60 := by have z := hB.2.1 h0 mh0 12; rw [th0] at z; exact z
  have w_4 : 0 ≤ (σ bl tx.toNatClampNeg).toInt ∧ (σ bl tx.toNatClampNeg).toInt ≤ 400 := by have z := hB.2.1 bl mbl tx.toNatClampNeg; rw [tbl] at z; exact z
  have R0 : RLx σ σ h0 bg bl tx 0 0 := RLx.rf
  have w_5 : 0 ≤ (σ bc tx.toNatClampNeg).toInt ∧ (σ bc tx.toNatClampNeg).toInt ≤ 12 := by have z := hB.2.1 bc mbc tx.toNatClampNeg; rw [tbc] at z; exact z
  have w_6 : (-2147483648) ≤ (σ h0 14).toInt ∧ (σ h0 14).toInt ≤ 2147483647 := by have z := hB.2.1 h0 mh0 14; rw [th0] at z; exact z
  obtain ⟨w2a, w2b, w2c, w2d⟩ := w2
  refine lv_aload_n hx hb dX12_clauseHere_0 rfl (lv_at hl 0 rfl) ?_
  refine t_ci (va_runV (As := []) (rest := []) ⟨hx, hb, hml, hown, hts⟩ (cz_X12_see l D cA L T r hG hLA.1 σ ρ hB.2.1 _ h0 mh0 th0 bt hbt mbt tbt) (cV hts mv_X12_see mw_6_134 rfl rfl ⟨Nat.le_of_ble_eq_true rfl, Nat.le_of_ble_eq_true rfl⟩) (pV hB.1 hK hN mh0 th0 (show shp cA 12 _ _ _ = .inr (12, Fs12 _ _ _) from rfl) rfl) rfl rfl hl.1 rfl (lv_room (Nat.le_of_ble_eq_true rfl)) dX12_clauseHere_1 ⟨Nat.le_of_ble_eq_true rfl, Nat.le_of_ble_eq_true rfl⟩) hLA hA hB hS (by decide) (fun x_9 σ_7 ρ_8 H locs hB fσ_7 pσ_7 hS => ?_)
  obtain ⟨g_10, g_11, g_12, g_13⟩ := pσ_7
  have w_14 : 0 ≤ (σ_7 h0 8).toInt ∧ (σ_7 h0 8).toInt ≤ 400 := by have z := hB.2.1 h0 mh0 8; rw [th0] at z; exact z
  obtain ⟨lx_9, ux_9⟩ := g_10
  have k_15 : σ_7 h0 1 = (σ h0 1) := (FR.at fσ_7 th0 (by decide)).trans rfl
  have cq_16 : (σ_7 h0 1).toInt = (σ h0 1).toInt := congrArg Int32.toInt k_15
  have k_17 : σ_7 h0 12 = (σ h0 12) := (FR.at fσ_7 th0 (by decide)).trans rfl
  have cq_18 : (σ_7 h0 12).toInt = (σ h0 12).toInt := congrArg Int32.toInt k_17
  have k_19 : σ_7 bl tx.toNatClampNeg = (σ bl tx.toNatClampNeg) := (FR.at fσ_7 tbl (by simp)).trans rfl
  have cq_20 : (σ_7 bl tx.toNatClampNeg).toInt = (σ bl tx.toNatClampNeg).toInt := congrArg Int32.toInt k_19
  have k_21 : σ_7 bc tx.toNatClampNeg = (σ bc tx.toNatClampNeg) := (FR.at fσ_7 tbc (by simp)).trans rfl
  have cq_22 : (σ_7 bc tx.toNatClampNeg).toInt = (σ bc tx.toNatClampNeg).toInt := congrArg Int32.toInt k_21
  have k_23 : σ_7 h0 14 = (σ h0 14) := (FR.at fσ_7 th0 (by decide)).trans rfl
  have cq_24 : (σ_7 h0 14).toInt = (σ h0 14).toInt := congrArg Int32.toInt k_23
  refine lv_pop hx hb dX12_clauseHere_4 rfl ?_
  refine lv_aload_n hx hb dX12_clauseHere_5 rfl (lv_at hl 0 rfl) ?_
  refine t_gv hx hb hts hown hK hB mh0 th0 fi_12_8 rfl mw_5_224 dX12_clauseHere_6 ?_
  refine lv_istore_n (lv' := [(1, .int (σ_7 h0 8)), (0, .ref h0)]) hx hb dX12_clauseHere_9 rfl hl (by decide) rfl (fun ls hl => ?_)
  refine lv_aload_n hx hb dX12_clauseHere_10 rfl (lv_at hl 1 rfl) ?_
  have k_25 : σ_7 h0 11 = tx := (FR.at fσ_7 th0 (by decide)).trans k0
  refine t_gv hx hb hts hown hK hB mh0 th0 fi_12_11 k_25 mw_5_227 dX12_clauseHere_11 ?_
  refine lv_bipush (v := 6) hx hb dX12_clauseHere_14 (by decide) ?_
  refine lv_icmp_ne (tgt := 23) hx hb dX12_clauseHere_16 (by decide) (fun c_26 => ?_) (fun c_26 => ?_)
  · skip
    have uc_26 := i_ne (n := 6) (by decide) c_26
    refine lv_iconst (v := 0) hx hb dX12_clauseHere_23 (by decide) ?_
    refine lv_istore_n (lv' := [(2, .int 0), (1, .int (σ_7 h0 8)), (0, .ref h0)]) hx hb dX12_clauseHere_24 rfl hl (by decide) rfl (fun ls hl => ?_)
    refine lv_iload_n hx hb dX12_clauseHere_25 rfl (lv_at hl 0 rfl) ?_
    refine lv_if_eq (tgt := 39) hx hb dX12_clauseHere_26 (by decide) (fun _ => ?_) (fun c9 => absurd (by decide) c9)
    refine lv_aload_n hx hb dX12_clauseHere_39 rfl (lv_at hl 2 rfl) ?_
    refine lv_ldc2 (v := 6386539) hx hb hown (hts _ mw_6_156) dX12_clauseHere_40 ?_
    refine t_ci (va_runV (As := [.long 6386539]) (rest := []) ⟨hx, hb, hml, hown, hts⟩ (cz_X12_isWord l D cA L T r hG hLA.1 σ_7 ρ_8 hB.2.1 _ h0 mh0 th0 6386539 bt hbt mbt tbt) (cV hts mv_X12_isWord mw_6_143 rfl rfl ⟨Nat.le_of_ble_eq_true rfl, Nat.le_of_ble_eq_true rfl⟩) (pV hB.1 hK hN mh0 th0 (show shp cA 12 _ _ _ = .inr (12, Fs12 _ _ _) from rfl) rfl) rfl rfl hl.1 rfl (lv_room (Nat.le_of_ble_eq_true rfl)) dX12_clauseHere_43 ⟨Nat.le_of_ble_eq_true rfl, Nat.le_of_ble_eq_true rfl⟩) hLA hA hB hS (by decide) (fun x_29 σ_27 ρ_28 H locs hB fσ_27 pσ_27 hS => ?_)
    obtain ⟨g_30, g_31, g_32, g_33⟩ := pσ_27
    have w_34 : 0 ≤ (σ_27 h0 8).toInt ∧ (σ_27 h0 8).toInt ≤ 400 := by have z := hB.2.1 h0 mh0 8; rw [th0] at z; exact z
    obtain ⟨lx_29, ux_29⟩ := g_30
    have k_35 : σ_27 h0 1 = (σ h0 1) := (FR.at fσ_27 th0 (by decide)).trans k_15
    have cq_36 : (σ_27 h0 1).toInt = (σ h0 1).toInt := congrArg Int32.toInt k_35
    have k_37 : σ_27 h0 12 = (σ h0 12) := (FR.at fσ_27 th0 (by decide)).trans k_17
    have cq_38 : (σ_27 h0 12).toInt = (σ h0 12).toInt := congrArg Int32.toInt k_37
    have k_39 : σ_27 bl tx.toNatClampNeg = (σ bl tx.toNatClampNeg) := (FR.at fσ_27 tbl (by simp)).trans k_19
    have cq_40 : (σ_27 bl tx.toNatClampNeg).toInt = (σ bl tx.toNatClampNeg).toInt := congrArg Int32.toInt k_39
    have k_41 : σ_27 bc tx.toNatClampNeg = (σ bc tx.toNatClampNeg) := (FR.at fσ_27 tbc (by simp)).trans k_21
    have cq_42 : (σ_27 bc tx.toNatClampNeg).toInt = (σ bc tx.toNatClampNeg).toInt := congrArg Int32.toInt k_41
    have k_43 : σ_27 h0 14 = (σ h0 14) := (FR.at fσ_27 th0 (by decide)).trans k_23
    have cq_44 : (σ_27 h0 14).toInt = (σ h0 14).toInt := congrArg Int32.toInt k_43
    refine lv_if_ne (tgt := 56) hx hb dX12_clauseHere_46 (by decide) (fun c_45 => ?_) (fun c_45 => ?_)
    · skip
      have uc_45 := i_ne (n := 0) (by decide) c_45
      refine lv_aload_n hx hb dX12_clauseHere_56 rfl (lv_at hl 2 rfl) ?_
      refine t_gv hx hb hts hown hK hB mh0 th0 fi_12_14 k_43 mw_5_230 dX12_clauseHere_57 ?_
      refine lv_iload_n hx hb dX12_clauseHere_60 rfl (lv_at hl 0 rfl) ?_
      refine lv_if_eq (tgt := 69) hx hb dX12_clauseHere_61 (by decide) (fun _ => ?_) (fun c9 => absurd (by decide) c9)
      refine lv_bipush (v := 12) hx hb dX12_clauseHere_69 (by decide) ?_
      refine lv_icmp_ne (tgt := 81) hx hb dX12_clauseHere_71 (by decide) (fun c_46 => ?_) (fun c_46 => ?_)
      · skip
        have uc_46 := i_ne (n := 12) (by decide) c_46
        refine lv_aload_n hx hb dX12_clauseHere_81 rfl (lv_at hl 2 rfl) ?_
        refine lv_dup hx hb dX12_clauseHere_82 rfl ?_
        refine t_gv hx hb hts hown hK hB mh0 th0 fi_12_14 k_43 mw_5_230 dX12_clauseHere_83 ?_
        refine lv_iconst (v := 1) hx hb dX12_clauseHere_86 (by decide) ?_
        refine lv_iadd hx hb dX12_clauseHere_87 ?_
        refine lv_topi (fun x_47 ex_47 => ?_)
        have vx_47 := b_add (rfl : (σ h0 14).toInt = _) (by decide : (1 : Int32).toInt = 1) ex_47 (by omega) (by omega)
        refine t_pi hx hb hts hown hK hLA hB hS mh0 th0 fi_12_14 rfl rfl rfl (i_lo _) (i_hi _) (Or.inl (by decide)) mw_5_230 dX12_clauseHere_88 (fun H locs σ_48 eσ_48 hB hS => ?_)
        have k_49 : σ_48 h0 14 = x_47 := by rw [eσ_48]; exact up2_same _ _ _ _
        refine lv_iload_n hx hb dX12_clauseHere_91 rfl (lv_at hl 0 rfl) ?_
        refine lv_if_eq (tgt := 103) hx hb dX12_clauseHere_92 (by decide) (fun _ => ?_) (fun c9 => absurd (by decide) c9)
        refine lv_aload_n hx hb dX12_clauseHere_103 rfl (lv_at hl 2 rfl) ?_
        have k_50 : σ_48 h0 8 = (σ_27 h0 8) := by rw [eσ_48, up2_nej _ _ (by decide)]
        have cq_51 : (σ_48 h0 8).toInt = (σ_27 h0 8).toInt := congrArg Int32.toInt k_50
        have k_52 : σ_48 h0 1 = (σ h0 1) := by rw [eσ_48, up2_nej _ _ (by decide)]; exact k_35
        have cq_53 : (σ_48 h0 1).toInt = (σ h0 1).toInt := congrArg Int32.toInt k_52
        have k_54 : σ_48 h0 12 = (σ h0 12) := by rw [eσ_48, up2_nej _ _ (by decide)]; exact k_37
        have cq_55 : (σ_48 h0 12).toInt = (σ h0 12).toInt := congrArg Int32.toInt k_54
        have k_56 : σ_48 bl tx.toNatClampNeg = (σ bl tx.toNatClampNeg) := by rw [eσ_48, up2_nea _ _ (tg_ne tbl th0 (by decide))]; exact k_39
        have cq_57 : (σ_48 bl tx.toNatClampNeg).toInt = (σ bl tx.toNatClampNeg).toInt := congrArg Int32.toInt k_56
        have k_58 : σ_48 bc tx.toNatClampNeg = (σ bc tx.toNatClampNeg) := by rw [eσ_48, up2_nea _ _ (tg_ne tbc th0 (by decide))]; exact k_41
        have cq_59 : (σ_48 bc tx.toNatClampNeg).toInt = (σ bc tx.toNatClampNeg).toInt := congrArg Int32.toInt k_58
        have cq_60 : (σ_48 h0 14).toInt = x_47.toInt := congrArg Int32.toInt k_49
        have k_61 : σ_27 h0 11 = tx := (FR.at fσ_27 th0 (by decide)).trans k_25
        have k_62 : σ_48 h0 11 = tx := by rw [eσ_48, up2_nej _ _ (by decide)]; exact k_61
        refine t_ci (va_runV (As := []) (rest := []) ⟨hx, hb, hml, hown, hts⟩ (cz_X12_isAskHere l D cA L T r hG hLA.1 σ_48 ρ_28 hB.2.1 _ h0 mh0 th0 bt hbt mbt tbt bg hbg mbg tbg bl hbl mbl tbl bk hbk mbk tbk bc hbc mbc tbc tx k_62 (by first | omega | decide) (by first | omega | decide) (by omega) (by first | omega | decide)) (cV hts mv_X12_isAskHere mw_6_212 rfl rfl ⟨Nat.le_of_ble_eq_true rfl, Nat.le_of_ble_eq_true rfl⟩) (pV hB.1 hK hN mh0 th0 (show shp cA 12 _ _ _ = .inr (12, Fs12 _ _ _) from rfl) rfl) rfl rfl hl.1 rfl (lv_room (Nat.le_of_ble_eq_true rfl)) dX12_clauseHere_104 ⟨Nat.le_of_ble_eq_true rfl, Nat.le_of_ble_eq_true rfl⟩) hLA hA hB hS (by decide) (fun x_65 σ_63 ρ_64 H locs hB fσ_63 pσ_63 hS => ?_)
        obtain ⟨g_66, g_67, g_68, g_69, g_70, g_71⟩ := pσ_63
        have w_72 : 0 ≤ (σ_63 bl tx.toNatClampNeg).toInt ∧ (σ_63 bl tx.toNatClampNeg).toInt ≤ 400 := by have z := hB.2.1 bl mbl tx.toNatClampNeg; rw [tbl] at z; exact z
        have w_73 : 0 ≤ (σ_63 h0 8).toInt ∧ (σ_63 h0 8).toInt ≤ 400 := by have z := hB.2.1 h0 mh0 8; rw [th0] at z; exact z
        have w_74 : 0 ≤ (σ_63 h0 12).toInt ∧ (σ_63 h0 12).toInt ≤ 60 := by have z := hB.2.1 h0 mh0 12; rw [th0] at z; exact z
        have k_75 := FR.row fσ_7 tbg (fun j => by simp)
        have k_76 := FR.row fσ_27 tbg (fun j => by simp)
        have k_77a := congrFun eσ_48 bg
        rw [up2_row _ _ (tg_ne tbg th0 (by decide))] at k_77a
        have k_78 := FR.row fσ_7 tbl (fun j => by simp)
        have k_79 := FR.row fσ_27 tbl (fun j => by simp)
        have k_80a := congrFun eσ_48 bl
        rw [up2_row _ _ (tg_ne tbl th0 (by decide))] at k_80a
        have ex_81 : EX (σ bg) (σ bl) (σ_48 bg) (σ_48 bl) tx := by rw [((k_77a).trans ((k_76).trans (k_75))), ((k_80a).trans ((k_79).trans (k_78)))]; exact EX.rf
        have ex_82 := EX.tr ex_81 g_68
        have w_83 : 0 ≤ (σ_63 bc tx.toNatClampNeg).toInt ∧ (σ_63 bc tx.toNatClampNeg).toInt ≤ 12 := by have z := hB.2.1 bc mbc tx.toNatClampNeg; rw [tbc] at z; exact z
        obtain ⟨lx_65, ux_65⟩ := g_66
        have k_84 : σ_63 h0 1 = (σ h0 1) := (FR.at fσ_63 th0 (by decide)).trans k_52
        have cq_85 : (σ_63 h0 1).toInt = (σ h0 1).toInt := congrArg Int32.toInt k_84
        have k_86 : σ_63 h0 14 = x_47 := (FR.at fσ_63 th0 (by decide)).trans k_49
        have cq_87 : (σ_63 h0 14).toInt = x_47.toInt := congrArg Int32.toInt k_86
        have k_88 := FR.row fσ_7 tbk (fun j => by simp)
        have k_89 := FR.row fσ_27 tbk (fun j => by simp)
        have k_90a := congrFun eσ_48 bk
        rw [up2_row _ _ (tg_ne tbk th0 (by decide))] at k_90a
        have k_91 := FR.row fσ_7 tbc (fun j => by simp)
        have k_92 := FR.row fσ_27 tbc (fun j => by simp)
        have k_93a := congrFun eσ_48 bc
        rw [up2_row _ _ (tg_ne tbc th0 (by decide))] at k_93a
        have k_94 := FR.row fσ_7 tbg (fun j => by simp)
        have k_95 := FR.row fσ_27 tbg (fun j => by simp)
        have k_96a := congrFun eσ_48 bg
        rw [up2_row _ _ (tg_ne tbg th0 (by decide))] at k_96a
        have k_97 := FR.row fσ_7 tbk (fun j => by simp)
        have k_98 := FR.row fσ_27 tbk (fun j => by simp)
        have k_99a := congrFun eσ_48 bk
        rw [up2_row _ _ (tg_ne tbk th0 (by decide))] at k_99a
        have k_100 := FR.row fσ_7 tbl (fun j => by simp)
        have k_101 := FR.row fσ_27 tbl (fun j => by simp)
        have k_102a := congrFun eσ_48 bl
        rw [up2_row _ _ (tg_ne tbl th0 (by decide))] at k_102a
        have k_103 := FR.row fσ_7 tbc (fun j => by simp)
        have k_104 := FR.row fσ_27 tbc (fun j => by simp)
        have k_105a := congrFun eσ_48 bc
        rw [up2_row _ _ (tg_ne tbc th0 (by decide))] at k_105a
        exact W.zret (v := x_65) hx hb hr (n_bool (by omega) (by omega)) (fun t ht hW => ⟨⟨x_65, (σ_63, ρ_64), rfl, ⟨hB.2.1, hB.2.2, ⟨(show 0 ≤ (x_65 : Int32).toInt ∧ (x_65 : Int32).toInt ≤ 1 from ⟨by omega, by omega⟩), (show (σ h0 8).toInt ≤ (σ_63 h0 8).toInt from (by omega)), (show EX (σ bg) (σ bl) (σ_63 bg) (σ_63 bl) tx from ex_82), (show KX (σ bk) (σ_63 bk) (σ bc) (σ_63 bc) tx from (by have z := g_69; rw [((k_90a).trans ((k_89).trans (k_88))), ((k_93a).trans ((k_92).trans (k_91)))] at z; exact z)), (show WP (σ bg) (σ bk) (σ bl) (σ bc tx.toNatClampNeg).toInt.toNat tx → WP (σ_63 bg) (σ_63 bk) (σ_63 bl) (σ_63 bc tx.toNatClampNeg).toInt.toNat tx from (fun hw => g_70 (by rw [((k_96a).trans ((k_95).trans (k_94))), ((k_99a).trans ((k_98).trans (k_97))), ((k_102a).trans ((k_101).trans (k_100))), ((k_105a).trans ((k_104).trans (k_103)))]; exact hw))), (show (x_65 : Int32).toInt = 1 → (σ_63 bl tx.toNatClampNeg).toInt ≤ (σ_63 h0 8).toInt ∧ (σ_63 bc tx.toNatClampNeg).toInt ≤ (σ_63 h0 14).toInt ∧ 0 ≤ (σ_63 h0 14).toInt ∧ (σ_63 h0 14).toInt ≤ 12 from (fun h => by have z := g_71 h; rw [k_86]; omega))⟩⟩, (show TP D cA L T r σ_63 ρ_64 t.heap from by rw [ht]; exact hB.1)⟩, hS.F ht⟩) hS.2.2 dX12_clauseHere_107
      · skip
        have uc_46 := i_eq (n := 12) (by decide) c_46
        refine lv_aload_n hx hb dX12_clauseHere_74 rfl (lv_at hl 2 rfl) ?_
        refine lv_iconst (v := 4) hx hb dX12_clauseHere_75 (by decide) ?_
        refine lv_iload_n hx hb dX12_clauseHere_76 rfl (lv_at hl 1 rfl) ?_
        refine t_ci (va_runV (As := [.int 4, .int (σ_7 h0 8)]) (rest := []) ⟨hx, hb, hml, hown, hts⟩ (cy_X12_fails l D cA L T r hG hLA.1 σ_27 ρ_28 hB.2.1 _ h0 mh0 th0 4 ((σ_7 h0 8)) (by first | omega | decide) (by first | omega | decide) (by first | omega | decide) (by first | omega | decide)) (cV hts mv_X12_fails mw_6_157 rfl rfl ⟨Nat.le_of_ble_eq_true rfl, Nat.le_of_ble_eq_true rfl⟩) (pV hB.1 hK hN mh0 th0 (show shp cA 12 _ _ _ = .inr (12, Fs12 _ _ _) from rfl) rfl) rfl rfl hl.1 rfl (lv_room (Nat.le_of_ble_eq_true rfl)) dX12_clauseHere_77 ⟨Nat.le_of_ble_eq_true rfl, Nat.le_of_ble_eq_true rfl⟩) hLA hA hB hS (by decide) (fun x_108 σ_106 ρ_107 H locs hB fσ_106 pσ_106 hS => ?_)
        subst pσ_106
        have k_109 : σ_106 h0 8 = (σ_27 h0 8) := (FR.at fσ_106 th0 (by decide)).trans rfl
        have cq_110 : (σ_106 h0 8).toInt = (σ_27 h0 8).toInt := congrArg Int32.toInt k_109
        have k_111 : σ_106 h0 1 = (σ h0 1) := (FR.at fσ_106 th0 (by decide)).trans k_35
        have cq_112 : (σ_106 h0 1).toInt = (σ h0 1).toInt := congrArg Int32.toInt k_111
        have k_113 : σ_106 h0 12 = (σ h0 12) := (FR.at fσ_106 th0 (by decide)).trans k_37
        have cq_114 : (σ_106 h0 12).toInt = (σ h0 12).toInt := congrArg Int32.toInt k_113
        have k_115 : σ_106 bl tx.toNatClampNeg = (σ bl tx.toNatClampNeg) := (FR.at fσ_106 tbl (by simp)).trans k_39
        have cq_116 : (σ_106 bl tx.toNatClampNeg).toInt = (σ bl tx.toNatClampNeg).toInt := congrArg Int32.toInt k_115
        have k_117 : σ_106 bc tx.toNatClampNeg = (σ bc tx.toNatClampNeg) := (FR.at fσ_106 tbc (by simp)).trans k_41
        have cq_118 : (σ_106 bc tx.toNatClampNeg).toInt = (σ bc tx.toNatClampNeg).toInt := congrArg Int32.toInt k_117
        have k_119 : σ_106 h0 14 = (σ h0 14) := (FR.at fσ_106 th0 (by decide)).trans k_43
        have cq_120 : (σ_106 h0 14).toInt = (σ h0 14).toInt := congrArg Int32.toInt k_119
        have k_121 := FR.row fσ_7 tbg (fun j => by simp)
        have k_122 := FR.row fσ_27 tbg (fun j => by simp)
        have k_123 := FR.row fσ_106 tbg (fun j => by simp)
        have k_124 := FR.row fσ_7 tbl (fun j => by simp)
        have k_125 := FR.row fσ_27 tbl (fun j => by simp)
        have k_126 := FR.row fσ_106 tbl (fun j => by simp)
        have ex_127 : EX (σ bg) (σ bl) (σ_106 bg) (σ_106 bl) tx := by rw [((k_123).trans ((k_122).trans (k_121))), ((k_126).trans ((k_125).trans (k_124)))]; exact EX.rf
        have k_128 := FR.row fσ_7 tbk (fun j => by simp)
        have k_129 := FR.row fσ_27 tbk (fun j => by simp)
        have k_130 := FR.row fσ_106 tbk (fun j => by simp)
        have k_131 := FR.row fσ_7 tbc (fun j => by simp)
        have k_132 := FR.row fσ_27 tbc (fun j => by simp)
        have k_133 := FR.row fσ_106 tbc (fun j => by simp)
        have k_134 := FR.row fσ_7 tbg (fun j => by simp)
        have k_135 := FR.row fσ_27 tbg (fun j => by simp)
        have k_136 := FR.row fσ_106 tbg (fun j => by simp)
        have k_137 := FR.row fσ_7 tbk (fun j => by simp)
        have k_138 := FR.row fσ_27 tbk (fun j => by simp)
        have k_139 := FR.row fσ_106 tbk (fun j => by simp)
        have k_140 := FR.row fσ_7 tbl (fun j => by simp)
        have k_141 := FR.row fσ_27 tbl (fun j => by simp)
        have k_142 := FR.row fσ_106 tbl (fun j => by simp)
        have k_143 := FR.row fσ_7 tbc (fun j => by simp)
        have k_144 := FR.row fσ_27 tbc (fun j => by simp)
        have k_145 := FR.row fσ_106 tbc (fun j => by simp)
        exact W.zret (v := 0) hx hb hr rfl (fun t ht hW => ⟨⟨0, (σ_106, ρ_107), rfl, ⟨hB.2.1, hB.2.2, ⟨(show 0 ≤ (0 : Int32).toInt ∧ (0 : Int32).toInt ≤ 1 from ⟨by decide, by decide⟩), (show (σ h0 8).toInt ≤ (σ_106 h0 8).toInt from (by rw [k_109]; omega)), (show EX (σ bg) (σ bl) (σ_106 bg) (σ_106 bl) tx from ex_127), (show KX (σ bk) (σ_106 bk) (σ bc) (σ_106 bc) tx from (by rw [((k_130).trans ((k_129).trans (k_128))), ((k_133).trans ((k_132).trans (k_131)))]; exact KX.rf)), (show WP (σ bg) (σ bk) (σ bl) (σ bc tx.toNatClampNeg).toInt.toNat tx → WP (σ_106 bg) (σ_106 bk) (σ_106 bl) (σ_106 bc tx.toNatClampNeg).toInt.toNat tx from (fun hw => by rw [((k_136).trans ((k_135).trans (k_134))), ((k_139).trans ((k_138).trans (k_137))), ((k_142).trans ((k_141).trans (k_140))), ((k_145).trans ((k_144).trans (k_143)))]; exact hw)), (show (0 : Int32).toInt = 1 → (σ_106 bl tx.toNatClampNeg).toInt ≤ (σ_106 h0 8).toInt ∧ (σ_106 bc tx.toNatClampNeg).toInt ≤ (σ_106 h0 14).toInt ∧ 0 ≤ (σ_106 h0 14).toInt ∧ (σ_106 h0 14).toInt ≤ 12 from (fun h => absurd h (by decide)))⟩⟩, (show TP D cA L T r σ_106 ρ_107 t.heap from by rw [ht]; exact hB.1)⟩, hS.F ht⟩) hS.2.2 dX12_clauseHere_80
    · skip
      have uc_45 := i_eq (n := 0) (by decide) c_45
      refine lv_aload_n hx hb dX12_clauseHere_49 rfl (lv_at hl 2 rfl) ?_
      refine lv_iconst (v := 0) hx hb dX12_clauseHere_50 (by decide) ?_
      refine lv_iload_n hx hb dX12_clauseHere_51 rfl (lv_at hl 1 rfl) ?_
      refine t_ci (va_runV (As := [.int 0, .int (σ_7 h0 8)]) (rest := []) ⟨hx, hb, hml, hown, hts⟩ (cy_X12_fails l D cA L T r hG hLA.1 σ_27 ρ_28 hB.2.1 _ h0 mh0 th0 0 ((σ_7 h0 8)) (by first | omega | decide) (by first | omega | decide) (by first | omega | decide) (by first | omega | decide)) (cV hts mv_X12_fails mw_6_157 rfl rfl ⟨Nat.le_of_ble_eq_true rfl, Nat.le_of_ble_eq_true rfl⟩) (pV hB.1 hK hN mh0 th0 (show shp cA 12 _ _ _ = .inr (12, Fs12 _ _ _) from rfl) rfl) rfl rfl hl.1 rfl (lv_room (Nat.le_of_ble_eq_true rfl)) dX12_clauseHere_52 ⟨Nat.le_of_ble_eq_true rfl, Nat.le_of_ble_eq_true rfl⟩) hLA hA hB hS (by decide) (fun x_148 σ_146 ρ_147 H locs hB fσ_146 pσ_146 hS => ?_)
      subst pσ_146
      have k_149 : σ_146 h0 8 = (σ_27 h0 8) := (FR.at fσ_146 th0 (by decide)).trans rfl
      have cq_150 : (σ_146 h0 8).toInt = (σ_27 h0 8).toInt := congrArg Int32.toInt k_149
      have k_151 : σ_146 h0 1 = (σ h0 1) := (FR.at fσ_146 th0 (by decide)).trans k_35
      have cq_152 : (σ_146 h0 1).toInt = (σ h0 1).toInt := congrArg Int32.toInt k_151
      have k_153 : σ_146 h0 12 = (σ h0 12) := (FR.at fσ_146 th0 (by decide)).trans k_37
      have cq_154 : (σ_146 h0 12).toInt = (σ h0 12).toInt := congrArg Int32.toInt k_153
      have k_155 : σ_146 bl tx.toNatClampNeg = (σ bl tx.toNatClampNeg) := (FR.at fσ_146 tbl (by simp)).trans k_39
      have cq_156 : (σ_146 bl tx.toNatClampNeg).toInt = (σ bl tx.toNatClampNeg).toInt := congrArg Int32.toInt k_155
      have k_157 : σ_146 bc tx.toNatClampNeg = (σ bc tx.toNatClampNeg) := (FR.at fσ_146 tbc (by simp)).trans k_41
      have cq_158 : (σ_146 bc tx.toNatClampNeg).toInt = (σ bc tx.toNatClampNeg).toInt := congrArg Int32.toInt k_157
      have k_159 : σ_146 h0 14 = (σ h0 14) := (FR.at fσ_146 th0 (by decide)).trans k_43
      have cq_160 : (σ_146 h0 14).toInt = (σ h0 14).toInt := congrArg Int32.toInt k_159
      have k_161 := FR.row fσ_7 tbg (fun j => by simp)
      have k_162 := FR.row fσ_27 tbg (fun j => by simp)
      have k_163 := FR.row fσ_146 tbg (fun j => by simp)
      have k_164 := FR.row fσ_7 tbl (fun j => by simp)
      have k_165 := FR.row fσ_27 tbl (fun j => by simp)
      have k_166 := FR.row fσ_146 tbl (fun j => by simp)
      have ex_167 : EX (σ bg) (σ bl) (σ_146 bg) (σ_146 bl) tx := by rw [((k_163).trans ((k_162).trans (k_161))), ((k_166).trans ((k_165).trans (k_164)))]; exact EX.rf
      have k_168 := FR.row fσ_7 tbk (fun j => by simp)
      have k_169 := FR.row fσ_27 tbk (fun j => by simp)
      have k_170 := FR.row fσ_146 tbk (fun j => by simp)
      have k_171 := FR.row fσ_7 tbc (fun j => by simp)
      have k_172 := FR.row fσ_27 tbc (fun j => by simp)
      have k_173 := FR.row fσ_146 tbc (fun j => by simp)
      have k_174 := FR.row fσ_7 tbg (fun j => by simp)
      have k_175 := FR.row fσ_27 tbg (fun j => by simp)
      have k_176 := FR.row fσ_146 tbg (fun j => by simp)
      have k_177 := FR.row fσ_7 tbk (fun j => by simp)
      have k_178 := FR.row fσ_27 tbk (fun j => by simp)
      have k_179 := FR.row fσ_146 tbk (fun j => by simp)
      have k_180 := FR.row fσ_7 tbl (fun j => by simp)
      have k_181 := FR.row fσ_27 tbl (fun j => by simp)
      have k_182 := FR.row fσ_146 tbl (fun j => by simp)
      have k_183 := FR.row fσ_7 tbc (fun j => by simp)
      have k_184 := FR.row fσ_27 tbc (fun j => by simp)
      have k_185 := FR.row fσ_146 tbc (fun j => by simp)
      exact W.zret (v := 0) hx hb hr rfl (fun t ht hW => ⟨⟨0, (σ_146, ρ_147), rfl, ⟨hB.2.1, hB.2.2, ⟨(show 0 ≤ (0 : Int32).toInt ∧ (0 : Int32).toInt ≤ 1 from ⟨by decide, by decide⟩), (show (σ h0 8).toInt ≤ (σ_146 h0 8).toInt from (by rw [k_149]; omega)), (show EX (σ bg) (σ bl) (σ_146 bg) (σ_146 bl) tx from ex_167), (show KX (σ bk) (σ_146 bk) (σ bc) (σ_146 bc) tx from (by rw [((k_170).trans ((k_169).trans (k_168))), ((k_173).trans ((k_172).trans (k_171)))]; exact KX.rf)), (show WP (σ bg) (σ bk) (σ bl) (σ bc tx.toNatClampNeg).toInt.toNat tx → WP (σ_146 bg) (σ_146 bk) (σ_146 bl) (σ_146 bc tx.toNatClampNeg).toInt.toNat tx from (fun hw => by rw [((k_176).trans ((k_175).trans (k_174))), ((k_179).trans ((k_178).trans (k_177))), ((k_182).trans ((k_181).trans (k_180))), ((k_185).trans ((k_184).trans (k_183)))]; exact hw)), (show (0 : Int32).toInt = 1 → (σ_146 bl tx.toNatClampNeg).toInt ≤ (σ_146 h0 8).toInt ∧ (σ_146 bc tx.toNatClampNeg).toInt ≤ (σ_146 h0 14).toInt ∧ 0 ≤ (σ_146 h0 14).toInt ∧ (σ_146 h0 14).toInt ≤ 12 from (fun h => absurd h (by decide)))⟩⟩, (show TP D cA L T r σ_146 ρ_147 t.heap from by rw [ht]; exact hB.1)⟩, hS.F ht⟩) hS.2.2 dX12_clauseHere_55
  · skip
    have uc_26 := i_eq (n := 6) (by decide) c_26
    exfalso; omega
def GX (g g' : Nat → Int32) (tx : Int32) : Prop := ∀ j : Nat, j < 400 * tx.toInt.toNat → g' j = g j
theorem EX.gx {g l g' l' : Nat → Int32} {tx : Int32} (h : EX g l g' l' tx) : GX g g' tx := fun j hj => h.2 j (by unfold ee; omega)
theorem GX.tr {g g1 g2 : Nat → Int32} {tx : Int32} (h : GX g g1 tx) (h' : GX g1 g2 tx) : GX g g2 tx := fun j hj => (h' j hj).trans (h j hj)
def WR (g k c : Nat → Int32) (n : Nat) : Prop := ∀ r i : Nat, r < n → i < (c r).toInt.toNat → CW g k r i (400 * r + 400)
theorem WR.no {g k c g' k' c' : Nat → Int32} {tx : Int32} (h : WR g k c tx.toInt.toNat) (hg : GX g g' tx) (hk : KX k k' c c' tx) (h12 : ∀ r : Nat, (c r).toInt ≤ 12) : WR g' k' c' tx.toInt.toNat := fun r i hr hi => by
  have e : c' r = c r := hk.2 r (by show r ≠ tx.toInt.toNat; omega)
  rw [e] at hi
  have := h12 r
  exact (h r i hr hi).fr (fun j hj => hg j (by omega)) (fun j hj => hk.1 j (by omega)) (Nat.le_refl _)
theorem WR.yes {g k c g' k' c' l' : Nat → Int32} {tx : Int32} (h : WR g k c tx.toInt.toNat) (hg : GX g g' tx) (hk : KX k k' c c' tx) (h12 : ∀ r : Nat, (c r).toInt ≤ 12) (hw : WP g' k' l' (c' tx.toNatClampNeg).toInt.toNat tx) (h4 : (l' tx.toNatClampNeg).toInt ≤ 400) : WR g' k' c' (tx.toInt.toNat + 1) := fun r i hr hi => by
  by_cases e : r < tx.toInt.toNat
  · exact h.no hg hk h12 r i e hi
  · have e2 : r = tx.toInt.toNat := by omega
    subst e2
    exact (hw i hi).fr (fun _ _ => rfl) (fun _ _ => rfl) (by unfold ee; omega)
theorem mw_6_132 : (.instanceMethod yX12_clauseHere : Cond) ∈ wsA := wsA_t (List.mem_append_right _ (List.mem_append_right _ (List.mem_append_right _ (List.mem_append_right _ (List.mem_append_right _ (List.mem_append_left _ (List.mem_of_getElem? (l := tables_1_6) (i := 132) rfl))))))) rfl
theorem mp_3_12 : (.selects RX12 yX12_clauseHere yX12_clauseHere : Cond) ∈ wsA := wsA_p (q := (yX12_clauseHere, 44)) (List.mem_append_right _ (List.mem_append_right _ (List.mem_append_left _ (List.mem_of_getElem? (l := lw_privs_3) (i := 12) rfl))))
theorem mw_6_133 : (.code yX12_clauseHere cX12_clauseHere 3 (some .boolean) : Cond) ∈ wsA := wsA_t (List.mem_append_right _ (List.mem_append_right _ (List.mem_append_right _ (List.mem_append_right _ (List.mem_append_right _ (List.mem_append_left _ (List.mem_of_getElem? (l := tables_1_6) (i := 133) rfl))))))) rfl
theorem mw_6_130 : (.methodLink RX12 273 yX12_clauseHere : Cond) ∈ wsA := wsA_t (List.mem_append_right _ (List.mem_append_right _ (List.mem_append_right _ (List.mem_append_right _ (List.mem_append_right _ (List.mem_append_left _ (List.mem_of_getElem? (l := tables_1_6) (i := 130) rfl))))))) rfl
theorem dX12_readsAll_0 : decode cX12_readsAll 0 = .ok (.aload_n 0, 1) := by decide +kernel
theorem dX12_readsAll_1 : decode cX12_readsAll 1 = .ok (.getfield 17, 3) := by decide +kernel
theorem dX12_readsAll_4 : decode cX12_readsAll 4 = .ok (.aload_n 0, 1) := by decide +kernel
theorem dX12_readsAll_5 : decode cX12_readsAll 5 = .ok (.getfield 154, 3) := by decide +kernel
theorem dX12_readsAll_8 : decode cX12_readsAll 8 = .ok (.iconst 0, 1) := by decide +kernel
theorem dX12_readsAll_9 : decode cX12_readsAll 9 = .ok (.iastore, 1) := by decide +kernel
theorem dX12_readsAll_10 : decode cX12_readsAll 10 = .ok (.aload_n 0, 1) := by decide +kernel
theorem dX12_readsAll_11 : decode cX12_readsAll 11 = .ok (.iconst 0, 1) := by decide +kernel
theorem dX12_readsAll_12 : decode cX12_readsAll 12 = .ok (.putfield 264, 3) := by decide +kernel
theorem dX12_readsAll_15 : decode cX12_readsAll 15 = .ok (.aload_n 0, 1) := by decide +kernel
theorem dX12_readsAll_16 : decode cX12_readsAll 16 = .ok (.iconst 0, 1) := by decide +kernel
theorem dX12_readsAll_17 : decode cX12_readsAll 17 = .ok (.putfield 102, 3) := by decide +kernel
theorem dX12_readsAll_20 : decode cX12_readsAll 20 = .ok (.aload_n 0, 1) := by decide +kernel
theorem dX12_readsAll_21 : decode cX12_readsAll 21 = .ok (.iconst 0, 1) := by decide +kernel
theorem dX12_readsAll_22 : decode cX12_readsAll 22 = .ok (.putfield 99, 3) := by decide +kernel
theorem dX12_readsAll_25 : decode cX12_readsAll 25 = .ok (.aload_n 0, 1) := by decide +kernel
theorem dX12_readsAll_26 : decode cX12_readsAll 26 = .ok (.iconst 0, 1) := by decide +kernel
theorem dX12_readsAll_27 : decode cX12_readsAll 27 = .ok (.putfield 157, 3) := by decide +kernel
theorem dX12_readsAll_30 : decode cX12_readsAll 30 = .ok (.aload_n 0, 1) := by decide +kernel
theorem dX12_readsAll_31 : decode cX12_readsAll 31 = .ok (.invokevirtual 273, 3) := by decide +kernel
theorem dX12_readsAll_34 : decode cX12_readsAll 34 = .ok (.istore_n 1, 1) := by decide +kernel
theorem dX12_readsAll_35 : decode cX12_readsAll 35 = .ok (.iload_n 1, 1) := by decide +kernel
theorem dX12_readsAll_36 : decode cX12_readsAll 36 = .ok (.ifCond .eq 30, 3) := by decide +kernel
theorem dX12_readsAll_39 : decode cX12_readsAll 39 = .ok (.aload_n 0, 1) := by decide +kernel
theorem dX12_readsAll_40 : decode cX12_readsAll 40 = .ok (.invokevirtual 105, 3) := by decide +kernel
theorem dX12_readsAll_43 : decode cX12_readsAll 43 = .ok (.bipush 59, 2) := by decide +kernel
theorem dX12_readsAll_45 : decode cX12_readsAll 45 = .ok (.if_icmp .ne 21, 3) := by decide +kernel
theorem dX12_readsAll_48 : decode cX12_readsAll 48 = .ok (.aload_n 0, 1) := by decide +kernel
theorem dX12_readsAll_49 : decode cX12_readsAll 49 = .ok (.dup, 1) := by decide +kernel
theorem dX12_readsAll_50 : decode cX12_readsAll 50 = .ok (.getfield 102, 3) := by decide +kernel
theorem dX12_readsAll_53 : decode cX12_readsAll 53 = .ok (.iconst 1, 1) := by decide +kernel
theorem dX12_readsAll_54 : decode cX12_readsAll 54 = .ok (.iadd, 1) := by decide +kernel
theorem dX12_readsAll_55 : decode cX12_readsAll 55 = .ok (.putfield 102, 3) := by decide +kernel
theorem dX12_readsAll_58 : decode cX12_readsAll 58 = .ok (.aload_n 0, 1) := by decide +kernel
theorem dX12_readsAll_59 : decode cX12_readsAll 59 = .ok (.invokevirtual 273, 3) := by decide +kernel
theorem dX12_readsAll_62 : decode cX12_readsAll 62 = .ok (.istore_n 1, 1) := by decide +kernel
theorem dX12_readsAll_63 : decode cX12_readsAll 63 = .ok (.goto (-28), 3) := by decide +kernel
theorem dX12_readsAll_66 : decode cX12_readsAll 66 = .ok (.iload_n 1, 1) := by decide +kernel
theorem dX12_readsAll_67 : decode cX12_readsAll 67 = .ok (.ifCond .eq 21, 3) := by decide +kernel
theorem dX12_readsAll_88 : decode cX12_readsAll 88 = .ok (.aload_n 0, 1) := by decide +kernel
theorem dX12_readsAll_89 : decode cX12_readsAll 89 = .ok (.iconst 0, 1) := by decide +kernel
theorem dX12_readsAll_90 : decode cX12_readsAll 90 = .ok (.putfield 92, 3) := by decide +kernel
theorem dX12_readsAll_93 : decode cX12_readsAll 93 = .ok (.aload_n 0, 1) := by decide +kernel
theorem dX12_readsAll_94 : decode cX12_readsAll 94 = .ok (.getfield 99, 3) := by decide +kernel
theorem dX12_readsAll_97 : decode cX12_readsAll 97 = .ok (.ifCond .ne 7, 3) := by decide +kernel
theorem dX12_readsAll_104 : decode cX12_readsAll 104 = .ok (.iconst 0, 1) := by decide +kernel
theorem dX12_readsAll_105 : decode cX12_readsAll 105 = .ok (.ireturn, 1) := by decide +kernel
theorem dX12_readsAll_100 : decode cX12_readsAll 100 = .ok (.iconst 1, 1) := by decide +kernel
theorem dX12_readsAll_101 : decode cX12_readsAll 101 = .ok (.goto 4, 3) := by decide +kernel
theorem dX12_readsAll_70 : decode cX12_readsAll 70 = .ok (.aload_n 0, 1) := by decide +kernel
theorem dX12_readsAll_71 : decode cX12_readsAll 71 = .ok (.invokevirtual 105, 3) := by decide +kernel
theorem dX12_readsAll_74 : decode cX12_readsAll 74 = .ok (.iconst (-1), 1) := by decide +kernel
theorem dX12_readsAll_75 : decode cX12_readsAll 75 = .ok (.if_icmp .eq 13, 3) := by decide +kernel
theorem dX12_readsAll_78 : decode cX12_readsAll 78 = .ok (.aload_n 0, 1) := by decide +kernel
theorem dX12_readsAll_79 : decode cX12_readsAll 79 = .ok (.iconst 0, 1) := by decide +kernel
theorem dX12_readsAll_80 : decode cX12_readsAll 80 = .ok (.aload_n 0, 1) := by decide +kernel
theorem dX12_readsAll_81 : decode cX12_readsAll 81 = .ok (.getfield 102, 3) := by decide +kernel
theorem dX12_readsAll_84 : decode cX12_readsAll 84 = .ok (.invokevirtual 123, 3) := by decide +kernel
theorem dX12_readsAll_87 : decode cX12_readsAll 87 = .ok (.pop, 1) := by decide +kernel
theorem mv_X12_clauseHere : MV RX12 yX12_clauseHere cX12_clauseHere 3 (some .boolean) 0 := ⟨mw_6_132, mp_3_12, mw_1_13, mw_6_133, ⟨rfl, by decide, by decide, by decide +kernel⟩⟩
set_option maxHeartbeats 4000000 in
set_option maxRecDepth 100000 in
theorem cz_X12_readsAll_r (l : Launch) (D : va_G) (cA : Nat → ClassId) (L : List Nat) (T : Nat → Nat) (r : Rg) (hG : GR L T r) (hL : L.Nodup) (σ : Sg) (ρ : Lg) (hW : WT L ry T σ) (sz : Nat) (h0 : Nat) (mh0 : h0 ∈ L) (th0 : T h0 = 12) (bt : Nat) (hbt : r h0 0 = some bt) (mbt : bt ∈ L) (tbt : T bt = 61) (bg : Nat) (hbg : r h0 3 = some bg) (mbg : bg ∈ L) (tbg : T bg = 62) (bl : Nat) (hbl : r h0 4 = some bl) (mbl : bl ∈ L) (tbl : T bl = 63) (bk : Nat) (hbk : r h0 5 = some bk) (mbk : bk ∈ L) (tbk : T bk = 64) (bc : Nat) (hbc : r h0 6 = some bc) (mbc : bc ∈ L) (tbc : T bc = 65) (tx : Int32) (k0 : σ h0 11 = tx) (w0 : 0 ≤ tx.toInt) (w1 : tx.toInt ≤ 5) (w2 : (σ bc tx.toNatClampNeg).toInt = 0) : Met l yX12_readsAll (.code yX12_readsAll cX12_readsAll 2 (some .boolean) :: wsA) ({ frames := 11, cells := 0, slots := 0, locals := 241 }) (PR D cA L T r σ ρ sz [.ref h0]) (QI D cA L T r ry [(12, 1), (12, 8), (12, 9), (12, 10), (12, 12), (12, 13), (12, 14), (12, 16), (62, 1000), (63, 1000), (64, 1000), (65, 1000), (67, 1000)] σ sz (fun x σ1 => (0 ≤ x.toInt ∧ x.toInt ≤ 1) ∧ (GX (σ bg) (σ1 bg) tx) ∧ (KX (σ bk) (σ1 bk) (σ bc) (σ1 bc) tx) ∧ (WP (σ1 bg) (σ1 bk) (σ1 bl) (σ1 bc tx.toNatClampNeg).toInt.toNat tx))) 0 0 (dm L sz) := by
  refine Met.ofW (cc := cX12_readsAll) (maxL := 2) (ret := (some .boolean)) (by decide) rfl ?_
  intro p e s m args below meth c s₁ B hml hv
  obtain ⟨rfl, hsz, hP, hK, hN⟩ := hv
  have hx := B.exec
  have hb := B.bytes
  have hr := B.returns
  have hts : ∀ w ∈ wsA, w.before _ s = true := fun w h => atoms_spec (ws := .code yX12_readsAll cX12_readsAll 2 (some .boolean) :: wsA) B.pre w (List.mem_cons_of_mem _ h)
  have hown : s.vm.findClass RX12 = some m.cls := findClass_of_methodNamed B.named
  subst hsz
  have hLA : LA (dm L s.heap.size) L := ⟨hL, fun a h => Or.inl h⟩
  have hA : ∀ q : Nat, s.heap.size ≤ q → dm L s.heap.size q := fun q h => Or.inr h
  have hS : va_S (dm L s.heap.size) s.heap s.heap [] := va_S.rf
  have hB : TS D cA L T r ry [(12, 1), (12, 8), (12, 9), (12, 10), (12, 12), (12, 13), (12, 14), (12, 16), (62, 1000), (63, 1000), (64, 1000), (65, 1000), (67, 1000)] σ σ ρ s.heap := ⟨hP, hW, FR.rf⟩
  have hl := lv_entry ([.ref h0]) (n := 2) (Nat.le_of_ble_eq_true rfl)
  rw [lg_entry_eq]
  generalize (lg_sl ([.ref h0]) ++ List.replicate (2 - (lg_sl ([.ref h0])).length) Slot.unset).toArray = ls at hl ⊢
  have hl : lv_has ls 2 [(0, .ref h0)] := hl
  have w_1 : 0 ≤ (σ h0 8).toInt ∧ (σ h0 8).toInt ≤ 400 := by have z := hB.2.1 h0 mh0 8; rw [th0] at z; exact z
  have w_2 : 0 ≤ (σ h0 1).toInt ∧ (σ h0 1).toInt ≤ 400 := by have z := hB.2.1 h0 mh0 1; rw [th0] at z; exact z
  have w_3 : 0 ≤ (σ h0 12).toInt ∧ (σ h0 12).toInt ≤ 60 := by have z := hB.2.1 h0 mh0 12; rw [th0] at z; exact z
  have w_4 : 0 ≤ (σ bc tx.toNatClampNeg).toInt ∧ (σ bc tx.toNatClampNeg).toInt ≤ 12 := by have z := hB.2.1 bc mbc tx.toNatClampNeg; rw [tbc] at z; exact z
  refine lv_aload_n hx hb dX12_readsAll_0 rfl (lv_at hl 0 rfl) ?_
  refine t_gk hx hb hts hown hK hB mh0 th0 fq_12_4 hbl mw_5_220 dX12_readsAll_1 ?_
  refine lv_aload_n hx hb dX12_readsAll_4 rfl (lv_at hl 0 rfl) ?_
  refine t_gv hx hb hts hown hK hB mh0 th0 fi_12_11 k0 mw_5_227 dX12_readsAll_5 ?_
  refine lv_iconst (v := 0) hx hb dX12_readsAll_8 (by decide) ?_
  refine t_si hx hb hK hLA hB hS mbl tbl ai_63 (i_in (by omega) (by omega)) (show 0 ≤ (0 : Int32).toInt by decide) (show (0 : Int32).toInt ≤ 400 by decide) (Or.inr (by decide)) dX12_readsAll_9 (fun H locs σ_5 eσ_5 hB hS => ?_)
  have k_6 : σ_5 bl tx.toNatClampNeg = 0 := by rw [eσ_5]; exact up2_same _ _ _ _
  refine lv_aload_n hx hb dX12_readsAll_10 rfl (lv_at hl 0 rfl) ?_
  refine lv_iconst (v := 0) hx hb dX12_readsAll_11 (by decide) ?_
  refine t_pi hx hb hts hown hK hLA hB hS mh0 th0 fi_12_14 rfl rfl rfl (i_lo _) (i_hi _) (Or.inl (by decide)) mw_5_230 dX12_readsAll_12 (fun H locs σ_7 eσ_7 hB hS => ?_)
  have k_8 : σ_7 h0 14 = 0 := by rw [eσ_7]; exact up2_same _ _ _ _
  refine lv_aload_n hx hb dX12_readsAll_15 rfl (lv_at hl 0 rfl) ?_
  refine lv_iconst (v := 0) hx hb dX12_readsAll_16 (by decide) ?_
  refine t_pi hx hb hts hown hK hLA hB hS mh0 th0 fi_12_8 rfl rfl rfl (by decide) (by decide) (Or.inl (by decide)) mw_5_224 dX12_readsAll_17 (fun H locs σ_9 eσ_9 hB hS => ?_)
  have k_10 : σ_9 h0 8 = 0 := by rw [eσ_9]; exact up2_same _ _ _ _
  refine lv_aload_n hx hb dX12_readsAll_20 rfl (lv_at hl 0 rfl) ?_
  refine lv_iconst (v := 0) hx hb dX12_readsAll_21 (by decide) ?_
  refine t_pi hx hb hts hown hK hLA hB hS mh0 th0 fi_12_9 rfl rfl rfl (i_lo _) (i_hi _) (Or.inl (by decide)) mw_5_225 dX12_readsAll_22 (fun H locs σ_11 eσ_11 hB hS => ?_)
  have k_12 : σ_11 h0 9 = 0 := by rw [eσ_11]; exact up2_same _ _ _ _
  refine lv_aload_n hx hb dX12_readsAll_25 rfl (lv_at hl 0 rfl) ?_
  refine lv_iconst (v := 0) hx hb dX12_readsAll_26 (by decide) ?_
  refine t_pi hx hb hts hown hK hLA hB hS mh0 th0 fi_12_12 rfl rfl rfl (by decide) (by decide) (Or.inl (by decide)) mw_5_228 dX12_readsAll_27 (fun H locs σ_13 eσ_13 hB hS => ?_)
  have k_14 : σ_13 h0 12 = 0 := by rw [eσ_13]; exact up2_same _ _ _ _
  refine lv_aload_n hx hb dX12_readsAll_30 rfl (lv_at hl 0 rfl) ?_
  have k_15 : σ_11 h0 8 = 0 := by rw [eσ_11, up2_nej _ _ (by decide)]; exact k_10
  have k_16 : σ_13 h0 8 = 0 := by rw [eσ_13, up2_nej _ _ (by decide)]; exact k_15
  have cq_17 : (σ_13 h0 8).toInt = 0 := by rw [k_16]; decide
  have k_18 : σ_5 h0 1 = (σ h0 1) := by rw [eσ_5, up2_nea _ _ (tg_ne th0 tbl (by decide))]
  have k_19 : σ_7 h0 1 = (σ h0 1) := by rw [eσ_7, up2_nej _ _ (by decide)]; exact k_18
  have k_20 : σ_9 h0 1 = (σ h0 1) := by rw [eσ_9, up2_nej _ _ (by decide)]; exact k_19
  have k_21 : σ_11 h0 1 = (σ h0 1) := by rw [eσ_11, up2_nej _ _ (by decide)]; exact k_20
  have k_22 : σ_13 h0 1 = (σ h0 1) := by rw [eσ_13, up2_nej _ _ (by decide)]; exact k_21
  have cq_23 : (σ_13 h0 1).toInt = (σ h0 1).toInt := congrArg Int32.toInt k_22
  have cq_24 : (σ_13 h0 12).toInt = 0 := by rw [k_14]; decide
  have k_25 : σ_7 bl tx.toNatClampNeg = 0 := by rw [eσ_7, up2_nea _ _ (tg_ne tbl th0 (by decide))]; exact k_6
  have k_26 : σ_9 bl tx.toNatClampNeg = 0 := by rw [eσ_9, up2_nea _ _ (tg_ne tbl th0 (by decide))]; exact k_25
  have k_27 : σ_11 bl tx.toNatClampNeg = 0 := by rw [eσ_11, up2_nea _ _ (tg_ne tbl th0 (by decide))]; exact k_26
  have k_28 : σ_13 bl tx.toNatClampNeg = 0 := by rw [eσ_13, up2_nea _ _ (tg_ne tbl th0 (by decide))]; exact k_27
  have cq_29 : (σ_13 bl tx.toNatClampNeg).toInt = 0 := by rw [k_28]; decide
  have k_30 : σ_5 bc tx.toNatClampNeg = (σ bc tx.toNatClampNeg) := by rw [eσ_5, up2_nea _ _ (tg_ne tbc tbl (by decide))]
  have k_31 : σ_7 bc tx.toNatClampNeg = (σ bc tx.toNatClampNeg) := by rw [eσ_7, up2_nea _ _ (tg_ne tbc th0 (by decide))]; exact k_30
  have k_32 : σ_9 bc tx.toNatClampNeg = (σ bc tx.toNatClampNeg) := by rw [eσ_9, up2_nea _ _ (tg_ne tbc th0 (by decide))]; exact k_31
  have k_33 : σ_11 bc tx.toNatClampNeg = (σ bc tx.toNatClampNeg) := by rw [eσ_11, up2_nea _ _ (tg_ne tbc th0 (by decide))]; exact k_32
  have k_34 : σ_13 bc tx.toNatClampNeg = (σ bc tx.toNatClampNeg) := by rw [eσ_13, up2_nea _ _ (tg_ne tbc th0 (by decide))]; exact k_33
  have cq_35 : (σ_13 bc tx.toNatClampNeg).toInt = (σ bc tx.toNatClampNeg).toInt := congrArg Int32.toInt k_34
  have k_36 : σ_9 h0 14 = 0 := by rw [eσ_9, up2_nej _ _ (by decide)]; exact k_8
  have k_37 : σ_11 h0 14 = 0 := by rw [eσ_11, up2_nej _ _ (by decide)]; exact k_36
  have k_38 : σ_13 h0 14 = 0 := by rw [eσ_13, up2_nej _ _ (by decide)]; exact k_37
  have cq_39 : (σ_13 h0 14).toInt = 0 := by rw [k_38]; decide
  have k_40 : σ_5 h0 11 = tx := by rw [eσ_5, up2_nea _ _ (tg_ne th0 tbl (by decide))]; exact k0
  have k_41 : σ_7 h0 11 = tx := by rw [eσ_7, up2_nej _ _ (by decide)]; exact k_40
  have k_42 : σ_9 h0 11 = tx := by rw [eσ_9, up2_nej _ _ (by decide)]; exact k_41
  have k_43 : σ_11 h0 11 = tx := by rw [eσ_11, up2_nej _ _ (by decide)]; exact k_42
  have k_44 : σ_13 h0 11 = tx := by rw [eσ_13, up2_nej _ _ (by decide)]; exact k_43
  refine t_ci (va_runV (As := []) (rest := []) ⟨hx, hb, hml, hown, hts⟩ (cz_X12_clauseHere_r l D cA L T r hG hLA.1 σ_13 ρ hB.2.1 _ h0 mh0 th0 bt hbt mbt tbt bg hbg mbg tbg bl hbl mbl tbl bk hbk mbk tbk bc hbc mbc tbc tx k_44 (by first | omega | decide) (by first | omega | decide) (by refine ⟨?_, ?_, ?_, ?_⟩ <;> (first | omega | (rw [k_28, k_16]; decide) | (rw [k_34, k_38]; decide) | (rw [k_38]; decide)))) (cV hts mv_X12_clauseHere mw_6_130 rfl rfl ⟨Nat.le_of_ble_eq_true rfl, Nat.le_of_ble_eq_true rfl⟩) (pV hB.1 hK hN mh0 th0 (show shp cA 12 _ _ _ = .inr (12, Fs12 _ _ _) from rfl) rfl) rfl rfl hl.1 rfl (lv_room (Nat.le_of_ble_eq_true rfl)) dX12_readsAll_31 ⟨Nat.le_of_ble_eq_true rfl, Nat.le_of_ble_eq_true rfl⟩) hLA hA hB hS (by decide) (fun x_47 σ_45 ρ_46 H locs hB fσ_45 pσ_45 hS => ?_)
  obtain ⟨g_48, g_49, g_50, g_51, g_52, g_53⟩ := pσ_45
  have w_54 : 0 ≤ (σ_45 bl tx.toNatClampNeg).toInt ∧ (σ_45 bl tx.toNatClampNeg).toInt ≤ 400 := by have z := hB.2.1 bl mbl tx.toNatClampNeg; rw [tbl] at z; exact z
  have w_55 : 0 ≤ (σ_45 h0 8).toInt ∧ (σ_45 h0 8).toInt ≤ 400 := by have z := hB.2.1 h0 mh0 8; rw [th0] at z; exact z
  have w_56 : 0 ≤ (σ_45 h0 12).toInt ∧ (σ_45 h0 12).toInt ≤ 60 := by have z := hB.2.1 h0 mh0 12; rw [th0] at z; exact z
  have w_57 : 0 ≤ (σ_45 bc tx.toNatClampNeg).toInt ∧ (σ_45 bc tx.toNatClampNeg).toInt ≤ 12 := by have z := hB.2.1 bc mbc tx.toNatClampNeg; rw [tbc] at z; exact z
  have w_58 : (-2147483648) ≤ (σ_45 h0 14).toInt ∧ (σ_45 h0 14).toInt ≤ 2147483647 := by have z := hB.2.1 h0 mh0 14; rw [th0] at z; exact z
  obtain ⟨lx_47, ux_47⟩ := g_48
  have k_59 : σ_45 h0 1 = (σ h0 1) := (FR.at fσ_45 th0 (by decide)).trans k_22
  have cq_60 : (σ_45 h0 1).toInt = (σ h0 1).toInt := congrArg Int32.toInt k_59
  have k_61a := congrFun eσ_5 bg
  rw [up2_row _ _ (tg_ne tbg tbl (by decide))] at k_61a
  have k_62a := congrFun eσ_7 bg
  rw [up2_row _ _ (tg_ne tbg th0 (by decide))] at k_62a
  have k_63a := congrFun eσ_9 bg
  rw [up2_row _ _ (tg_ne tbg th0 (by decide))] at k_63a
  have k_64a := congrFun eσ_11 bg
  rw [up2_row _ _ (tg_ne tbg th0 (by decide))] at k_64a
  have k_65a := congrFun eσ_13 bg
  rw [up2_row _ _ (tg_ne tbg th0 (by decide))] at k_65a
  have gx_66 : GX (σ bg) (σ_13 bg) tx := by rw [((k_65a).trans ((k_64a).trans ((k_63a).trans ((k_62a).trans (k_61a)))))]; exact (fun _ _ => rfl : GX (σ bg) (σ bg) tx)
  have gx_67 := GX.tr gx_66 (EX.gx g_50)
  have k_68a := congrFun eσ_5 bk
  rw [up2_row _ _ (tg_ne tbk tbl (by decide))] at k_68a
  have k_69a := congrFun eσ_7 bk
  rw [up2_row _ _ (tg_ne tbk th0 (by decide))] at k_69a
  have k_70a := congrFun eσ_9 bk
  rw [up2_row _ _ (tg_ne tbk th0 (by decide))] at k_70a
  have k_71a := congrFun eσ_11 bk
  rw [up2_row _ _ (tg_ne tbk th0 (by decide))] at k_71a
  have k_72a := congrFun eσ_13 bk
  rw [up2_row _ _ (tg_ne tbk th0 (by decide))] at k_72a
  have k_73a := congrFun eσ_5 bc
  rw [up2_row _ _ (tg_ne tbc tbl (by decide))] at k_73a
  have k_74a := congrFun eσ_7 bc
  rw [up2_row _ _ (tg_ne tbc th0 (by decide))] at k_74a
  have k_75a := congrFun eσ_9 bc
  rw [up2_row _ _ (tg_ne tbc th0 (by decide))] at k_75a
  have k_76a := congrFun eσ_11 bc
  rw [up2_row _ _ (tg_ne tbc th0 (by decide))] at k_76a
  have k_77a := congrFun eσ_13 bc
  rw [up2_row _ _ (tg_ne tbc th0 (by decide))] at k_77a
  have kx_78 : KX (σ bk) (σ_13 bk) (σ bc) (σ_13 bc) tx := by rw [((k_72a).trans ((k_71a).trans ((k_70a).trans ((k_69a).trans (k_68a))))), ((k_77a).trans ((k_76a).trans ((k_75a).trans ((k_74a).trans (k_73a)))))]; exact (KX.rf : KX (σ bk) (σ bk) (σ bc) (σ bc) tx)
  have kx_79 := KX.tr kx_78 g_51
  have wp_80 : WP (σ_13 bg) (σ_13 bk) (σ_13 bl) (σ_13 bc tx.toNatClampNeg).toInt.toNat tx := fun c hc => absurd hc (by omega)
  have wp_81 := g_52 wp_80
  refine lv_istore_n (lv' := [(1, .int x_47), (0, .ref h0)]) hx hb dX12_readsAll_34 rfl hl (by decide) rfl (fun ls hl => ?_)
  have k_82 : σ_45 h0 11 = tx := (FR.at fσ_45 th0 (by decide)).trans k_44
  refine w_loop (α := Int32 × Sg × Lg) (fun (i_83, σ_84, ρ_85) H locs ls => 0 ≤ i_83.toInt ∧ i_83.toInt ≤ 1 ∧ σ_84 h0 11 = tx ∧ σ_84 h0 1 = (σ h0 1) ∧ (GX (σ bg) (σ_84 bg) tx) ∧ (KX (σ bk) (σ_84 bk) (σ bc) (σ_84 bc) tx) ∧ (WP (σ_84 bg) (σ_84 bk) (σ_84 bl) (σ_84 bc tx.toNatClampNeg).toInt.toNat tx) ∧ (i_83.toInt = 1 → (σ_84 bl tx.toNatClampNeg).toInt ≤ (σ_84 h0 8).toInt ∧ (σ_84 bc tx.toNatClampNeg).toInt ≤ (σ_84 h0 14).toInt ∧ 0 ≤ (σ_84 h0 14).toInt ∧ (σ_84 h0 14).toInt ≤ 12) ∧ TS D cA L T r ry [(12, 1), (12, 8), (12, 9), (12, 10), (12, 12), (12, 13), (12, 14), (12, 16), (62, 1000), (63, 1000), (64, 1000), (65, 1000), (67, 1000)] σ σ_84 ρ_85 H ∧ va_S (dm L s.heap.size) s.heap H locs ∧ lv_has ls 2 [(1, .int i_83), (0, .ref h0)]) (fun (i_83, σ_84, ρ_85) => (400 - (σ_84 h0 8).toInt).toNat) ?_ ⟨x_47, σ_45, ρ_46⟩ ⟨(by omega), (by omega), k_82, k_59, gx_67, kx_79, wp_81, g_53, hB, hS, lv_sub hl [0, 1] rfl⟩
  rintro ⟨i_83, σ_84, ρ_85⟩ H locs ls ⟨li_83, ui_83, k_87, k_88, g_89, g_90, g_91, g_92, hB, hS, hl⟩ ih_86
  have w_93 : 0 ≤ (σ_84 h0 8).toInt ∧ (σ_84 h0 8).toInt ≤ 400 := by have z := hB.2.1 h0 mh0 8; rw [th0] at z; exact z
  have w_94 : 0 ≤ (σ_84 h0 12).toInt ∧ (σ_84 h0 12).toInt ≤ 60 := by have z := hB.2.1 h0 mh0 12; rw [th0] at z; exact z
  have w_95 : (-2147483648) ≤ (σ_84 h0 14).toInt ∧ (σ_84 h0 14).toInt ≤ 2147483647 := by have z := hB.2.1 h0 mh0 14; rw [th0] at z; exact z
  have w_96 : 0 ≤ (σ_84 bl tx.toNatClampNeg).toInt ∧ (σ_84 bl tx.toNatClampNeg).toInt ≤ 400 := by have z := hB.2.1 bl mbl tx.toNatClampNeg; rw [tbl] at z; exact z
  have w_97 : 0 ≤ (σ_84 bc tx.toNatClampNeg).toInt ∧ (σ_84 bc tx.toNatClampNeg).toInt ≤ 12 := by have z := hB.2.1 bc mbc tx.toNatClampNeg; rw [tbc] at z; exact z
  have cq_98 := congrArg Int32.toInt k_88
  refine lv_iload_n hx hb dX12_readsAll_35 rfl (lv_at hl 0 rfl) ?_
  refine lv_if_eq (tgt := 66) hx hb dX12_readsAll_36 (by decide) (fun c_99 => ?_) (fun c_99 => ?_)
  · skip
    have uc_99 := i_eq (n := 0) (by decide) c_99
    refine lv_iload_n hx hb dX12_readsAll_66 rfl (lv_at hl 0 rfl) ?_
    refine lv_if_eq (tgt := 88) hx hb dX12_readsAll_67 (by decide) (fun c_100 => ?_) (fun c_100 => ?_)
    · skip
      have uc_100 := i_eq (n := 0) (by decide) c_100
      refine lv_aload_n hx hb dX12_readsAll_88 rfl (lv_at hl 1 rfl) ?_
      refine lv_iconst (v := 0) hx hb dX12_readsAll_89 (by decide) ?_
      refine t_pi hx hb hts hown hK hLA hB hS mh0 th0 fi_12_1 rfl rfl rfl (by decide) (by decide) (Or.inl (by decide)) mw_5_217 dX12_readsAll_90 (fun H locs σ_101 eσ_101 hB hS => ?_)
      have k_102 : σ_101 h0 1 = 0 := by rw [eσ_101]; exact up2_same _ _ _ _
      refine lv_aload_n hx hb dX12_readsAll_93 rfl (lv_at hl 1 rfl) ?_
      refine t_gi hx hb hts hown hK hB mh0 th0 fi_12_9 rfl mw_5_225 dX12_readsAll_94 (fun x_103 ex_103 lx_103 ux_103 => ?_)
      have cx_103 := congrArg Int32.toInt ex_103
      refine lv_if_ne (tgt := 104) hx hb dX12_readsAll_97 (by decide) (fun c_104 => ?_) (fun c_104 => ?_)
      · skip
        have uc_104 := i_ne (n := 0) (by decide) c_104
        refine lv_iconst (v := 0) hx hb dX12_readsAll_104 (by decide) ?_
        have k_105a := congrFun eσ_101 bg
        rw [up2_row _ _ (tg_ne tbg th0 (by decide))] at k_105a
        have gx_106 : GX (σ bg) (σ_101 bg) tx := by rw [(k_105a)]; exact g_89
        have k_107a := congrFun eσ_101 bk
        rw [up2_row _ _ (tg_ne tbk th0 (by decide))] at k_107a
        have k_108a := congrFun eσ_101 bc
        rw [up2_row _ _ (tg_ne tbc th0 (by decide))] at k_108a
        have kx_109 : KX (σ bk) (σ_101 bk) (σ bc) (σ_101 bc) tx := by rw [(k_107a), (k_108a)]; exact g_90
        have k_110a := congrFun eσ_101 bg
        rw [up2_row _ _ (tg_ne tbg th0 (by decide))] at k_110a
        have k_111a := congrFun eσ_101 bk
        rw [up2_row _ _ (tg_ne tbk th0 (by decide))] at k_111a
        have k_112a := congrFun eσ_101 bl
        rw [up2_row _ _ (tg_ne tbl th0 (by decide))] at k_112a
        have k_113a := congrFun eσ_101 bc
        rw [up2_row _ _ (tg_ne tbc th0 (by decide))] at k_113a
        have wp_114 : WP (σ_101 bg) (σ_101 bk) (σ_101 bl) (σ_101 bc tx.toNatClampNeg).toInt.toNat tx := by rw [(k_110a), (k_111a), (k_112a), (k_113a)]; exact g_91
        exact W.zret (v := 0) hx hb hr rfl (fun t ht hW => ⟨⟨0, (σ_101, ρ_85), rfl, ⟨hB.2.1, hB.2.2, ⟨(show 0 ≤ (0 : Int32).toInt ∧ (0 : Int32).toInt ≤ 1 from ⟨by decide, by decide⟩), (show GX (σ bg) (σ_101 bg) tx from gx_106), (show KX (σ bk) (σ_101 bk) (σ bc) (σ_101 bc) tx from kx_109), (show WP (σ_101 bg) (σ_101 bk) (σ_101 bl) (σ_101 bc tx.toNatClampNeg).toInt.toNat tx from wp_114)⟩⟩, (show TP D cA L T r σ_101 ρ_85 t.heap from by rw [ht]; exact hB.1)⟩, hS.F ht⟩) hS.2.2 dX12_readsAll_105
      · skip
        have uc_104 := i_eq (n := 0) (by decide) c_104
        refine lv_iconst (v := 1) hx hb dX12_readsAll_100 (by decide) ?_
        refine lv_goto (tgt := 105) hx hb dX12_readsAll_101 (by decide) ?_
        have k_115a := congrFun eσ_101 bg
        rw [up2_row _ _ (tg_ne tbg th0 (by decide))] at k_115a
        have gx_116 : GX (σ bg) (σ_101 bg) tx := by rw [(k_115a)]; exact g_89
        have k_117a := congrFun eσ_101 bk
        rw [up2_row _ _ (tg_ne tbk th0 (by decide))] at k_117a
        have k_118a := congrFun eσ_101 bc
        rw [up2_row _ _ (tg_ne tbc th0 (by decide))] at k_118a
        have kx_119 : KX (σ bk) (σ_101 bk) (σ bc) (σ_101 bc) tx := by rw [(k_117a), (k_118a)]; exact g_90
        have k_120a := congrFun eσ_101 bg
        rw [up2_row _ _ (tg_ne tbg th0 (by decide))] at k_120a
        have k_121a := congrFun eσ_101 bk
        rw [up2_row _ _ (tg_ne tbk th0 (by decide))] at k_121a
        have k_122a := congrFun eσ_101 bl
        rw [up2_row _ _ (tg_ne tbl th0 (by decide))] at k_122a
        have k_123a := congrFun eσ_101 bc
        rw [up2_row _ _ (tg_ne tbc th0 (by decide))] at k_123a
        have wp_124 : WP (σ_101 bg) (σ_101 bk) (σ_101 bl) (σ_101 bc tx.toNatClampNeg).toInt.toNat tx := by rw [(k_120a), (k_121a), (k_122a), (k_123a)]; exact g_91
        exact W.zret (v := 1) hx hb hr rfl (fun t ht hW => ⟨⟨1, (σ_101, ρ_85), rfl, ⟨hB.2.1, hB.2.2, ⟨(show 0 ≤ (1 : Int32).toInt ∧ (1 : Int32).toInt ≤ 1 from ⟨by decide, by decide⟩), (show GX (σ bg) (σ_101 bg) tx from gx_116), (show KX (σ bk) (σ_101 bk) (σ bc) (σ_101 bc) tx from kx_119), (show WP (σ_101 bg) (σ_101 bk) (σ_101 bl) (σ_101 bc tx.toNatClampNeg).toInt.toNat tx from wp_124)⟩⟩, (show TP D cA L T r σ_101 ρ_85 t.heap from by rw [ht]; exact hB.1)⟩, hS.F ht⟩) hS.2.2 dX12_readsAll_105
    · skip
      have uc_100 := i_ne (n := 0) (by decide) c_100
      exfalso; omega
  · skip
    have uc_99 := i_ne (n := 0) (by decide) c_99
    obtain ⟨cn_125a, cn_125b, cn_125c, cn_125d⟩ := g_92 (by omega)
    clear g_92
    refine lv_aload_n hx hb dX12_readsAll_39 rfl (lv_at hl 1 rfl) ?_
    have cq_126 : (σ_84 h0 1).toInt = (σ h0 1).toInt := congrArg Int32.toInt k_88
    refine t_ci (va_runV (As := []) (rest := []) ⟨hx, hb, hml, hown, hts⟩ (cz_X12_see l D cA L T r hG hLA.1 σ_84 ρ_85 hB.2.1 _ h0 mh0 th0 bt hbt mbt tbt) (cV hts mv_X12_see mw_6_134 rfl rfl ⟨Nat.le_of_ble_eq_true rfl, Nat.le_of_ble_eq_true rfl⟩) (pV hB.1 hK hN mh0 th0 (show shp cA 12 _ _ _ = .inr (12, Fs12 _ _ _) from rfl) rfl) rfl rfl hl.1 rfl (lv_room (Nat.le_of_ble_eq_true rfl)) dX12_readsAll_40 ⟨Nat.le_of_ble_eq_true rfl, Nat.le_of_ble_eq_true rfl⟩) hLA hA hB hS (by decide) (fun x_129 σ_127 ρ_128 H locs hB fσ_127 pσ_127 hS => ?_)
    obtain ⟨g_130, g_131, g_132, g_133⟩ := pσ_127
    have w_134 : 0 ≤ (σ_127 h0 8).toInt ∧ (σ_127 h0 8).toInt ≤ 400 := by have z := hB.2.1 h0 mh0 8; rw [th0] at z; exact z
    obtain ⟨lx_129, ux_129⟩ := g_130
    have k_135 : σ_127 h0 1 = (σ h0 1) := (FR.at fσ_127 th0 (by decide)).trans k_88
    have cq_136 : (σ_127 h0 1).toInt = (σ h0 1).toInt := congrArg Int32.toInt k_135
    have k_137 : σ_127 h0 12 = (σ_84 h0 12) := (FR.at fσ_127 th0 (by decide)).trans rfl
    have cq_138 : (σ_127 h0 12).toInt = (σ_84 h0 12).toInt := congrArg Int32.toInt k_137
    have k_139 : σ_127 bl tx.toNatClampNeg = (σ_84 bl tx.toNatClampNeg) := (FR.at fσ_127 tbl (by simp)).trans rfl
    have cq_140 : (σ_127 bl tx.toNatClampNeg).toInt = (σ_84 bl tx.toNatClampNeg).toInt := congrArg Int32.toInt k_139
    have k_141 : σ_127 bc tx.toNatClampNeg = (σ_84 bc tx.toNatClampNeg) := (FR.at fσ_127 tbc (by simp)).trans rfl
    have cq_142 : (σ_127 bc tx.toNatClampNeg).toInt = (σ_84 bc tx.toNatClampNeg).toInt := congrArg Int32.toInt k_141
    have k_143 : σ_127 h0 14 = (σ_84 h0 14) := (FR.at fσ_127 th0 (by decide)).trans rfl
    have cq_144 : (σ_127 h0 14).toInt = (σ_84 h0 14).toInt := congrArg Int32.toInt k_143
    refine lv_bipush (v := 59) hx hb dX12_readsAll_43 (by decide) ?_
    refine lv_icmp_ne (tgt := 66) hx hb dX12_readsAll_45 (by decide) (fun c_145 => ?_) (fun c_145 => ?_)
    · skip
      have uc_145 := i_ne (n := 59) (by decide) c_145
      refine lv_iload_n hx hb dX12_readsAll_66 rfl (lv_at hl 0 rfl) ?_
      refine lv_if_eq (tgt := 88) hx hb dX12_readsAll_67 (by decide) (fun c_146 => ?_) (fun c_146 => ?_)
      · skip
        have uc_146 := i_eq (n := 0) (by decide) c_146
        exfalso; omega
      · skip
        have uc_146 := i_ne (n := 0) (by decide) c_146
        refine lv_aload_n hx hb dX12_readsAll_70 rfl (lv_at hl 1 rfl) ?_
        refine t_ci (va_runV (As := []) (rest := []) ⟨hx, hb, hml, hown, hts⟩ (cz_X12_see l D cA L T r hG hLA.1 σ_127 ρ_128 hB.2.1 _ h0 mh0 th0 bt hbt mbt tbt) (cV hts mv_X12_see mw_6_134 rfl rfl ⟨Nat.le_of_ble_eq_true rfl, Nat.le_of_ble_eq_true rfl⟩) (pV hB.1 hK hN mh0 th0 (show shp cA 12 _ _ _ = .inr (12, Fs12 _ _ _) from rfl) rfl) rfl rfl hl.1 rfl (lv_room (Nat.le_of_ble_eq_true rfl)) dX12_readsAll_71 ⟨Nat.le_of_ble_eq_true rfl, Nat.le_of_ble_eq_true rfl⟩) hLA hA hB hS (by decide) (fun x_149 σ_147 ρ_148 H locs hB fσ_147 pσ_147 hS => ?_)
        obtain ⟨g_150, g_151, g_152, g_153⟩ := pσ_147
        have w_154 : 0 ≤ (σ_147 h0 8).toInt ∧ (σ_147 h0 8).toInt ≤ 400 := by have z := hB.2.1 h0 mh0 8; rw [th0] at z; exact z
        obtain ⟨lx_149, ux_149⟩ := g_150
        have k_155 : σ_147 h0 1 = (σ h0 1) := (FR.at fσ_147 th0 (by decide)).trans k_135
        have cq_156 : (σ_147 h0 1).toInt = (σ h0 1).toInt := congrArg Int32.toInt k_155
        have k_157 : σ_147 h0 12 = (σ_84 h0 12) := (FR.at fσ_147 th0 (by decide)).trans k_137
        have cq_158 : (σ_147 h0 12).toInt = (σ_84 h0 12).toInt := congrArg Int32.toInt k_157
        have k_159 : σ_147 bl tx.toNatClampNeg = (σ_84 bl tx.toNatClampNeg) := (FR.at fσ_147 tbl (by simp)).trans k_139
        have cq_160 : (σ_147 bl tx.toNatClampNeg).toInt = (σ_84 bl tx.toNatClampNeg).toInt := congrArg Int32.toInt k_159
        have k_161 : σ_147 bc tx.toNatClampNeg = (σ_84 bc tx.toNatClampNeg) := (FR.at fσ_147 tbc (by simp)).trans k_141
        have cq_162 : (σ_147 bc tx.toNatClampNeg).toInt = (σ_84 bc tx.toNatClampNeg).toInt := congrArg Int32.toInt k_161
        have k_163 : σ_147 h0 14 = (σ_84 h0 14) := (FR.at fσ_147 th0 (by decide)).trans k_143
        have cq_164 : (σ_147 h0 14).toInt = (σ_84 h0 14).toInt := congrArg Int32.toInt k_163
        refine lv_iconst (v := (-1)) hx hb dX12_readsAll_74 (by decide) ?_
        refine lv_icmp_eq (tgt := 88) hx hb dX12_readsAll_75 (by decide) (fun c_165 => ?_) (fun c_165 => ?_)
        · skip
          have uc_165 := i_eq (n := (-1)) (by decide) c_165
          refine lv_aload_n hx hb dX12_readsAll_88 rfl (lv_at hl 1 rfl) ?_
          refine lv_iconst (v := 0) hx hb dX12_readsAll_89 (by decide) ?_
          refine t_pi hx hb hts hown hK hLA hB hS mh0 th0 fi_12_1 rfl rfl rfl (by decide) (by decide) (Or.inl (by decide)) mw_5_217 dX12_readsAll_90 (fun H locs σ_166 eσ_166 hB hS => ?_)
          have k_167 : σ_166 h0 1 = 0 := by rw [eσ_166]; exact up2_same _ _ _ _
          refine lv_aload_n hx hb dX12_readsAll_93 rfl (lv_at hl 1 rfl) ?_
          refine t_gi hx hb hts hown hK hB mh0 th0 fi_12_9 rfl mw_5_225 dX12_readsAll_94 (fun x_168 ex_168 lx_168 ux_168 => ?_)
          have cx_168 := congrArg Int32.toInt ex_168
          refine lv_if_ne (tgt := 104) hx hb dX12_readsAll_97 (by decide) (fun c_169 => ?_) (fun c_169 => ?_)
          · skip
            have uc_169 := i_ne (n := 0) (by decide) c_169
            refine lv_iconst (v := 0) hx hb dX12_readsAll_104 (by decide) ?_
            have k_170 := FR.row fσ_127 tbg (fun j => by simp)
            have k_171 := FR.row fσ_147 tbg (fun j => by simp)
            have k_172a := congrFun eσ_166 bg
            rw [up2_row _ _ (tg_ne tbg th0 (by decide))] at k_172a
            have gx_173 : GX (σ bg) (σ_166 bg) tx := by rw [((k_172a).trans ((k_171).trans (k_170)))]; exact g_89
            have k_174 := FR.row fσ_127 tbk (fun j => by simp)
            have k_175 := FR.row fσ_147 tbk (fun j => by simp)
            have k_176a := congrFun eσ_166 bk
            rw [up2_row _ _ (tg_ne tbk th0 (by decide))] at k_176a
            have k_177 := FR.row fσ_127 tbc (fun j => by simp)
            have k_178 := FR.row fσ_147 tbc (fun j => by simp)
            have k_179a := congrFun eσ_166 bc
            rw [up2_row _ _ (tg_ne tbc th0 (by decide))] at k_179a
            have kx_180 : KX (σ bk) (σ_166 bk) (σ bc) (σ_166 bc) tx := by rw [((k_176a).trans ((k_175).trans (k_174))), ((k_179a).trans ((k_178).trans (k_177)))]; exact g_90
            have k_181 := FR.row fσ_127 tbg (fun j => by simp)
            have k_182 := FR.row fσ_147 tbg (fun j => by simp)
            have k_183a := congrFun eσ_166 bg
            rw [up2_row _ _ (tg_ne tbg th0 (by decide))] at k_183a
            have k_184 := FR.row fσ_127 tbk (fun j => by simp)
            have k_185 := FR.row fσ_147 tbk (fun j => by simp)
            have k_186a := congrFun eσ_166 bk
            rw [up2_row _ _ (tg_ne tbk th0 (by decide))] at k_186a
            have k_187 := FR.row fσ_127 tbl (fun j => by simp)
            have k_188 := FR.row fσ_147 tbl (fun j => by simp)
            have k_189a := congrFun eσ_166 bl
            rw [up2_row _ _ (tg_ne tbl th0 (by decide))] at k_189a
            have k_190 := FR.row fσ_127 tbc (fun j => by simp)
            have k_191 := FR.row fσ_147 tbc (fun j => by simp)
            have k_192a := congrFun eσ_166 bc
            rw [up2_row _ _ (tg_ne tbc th0 (by decide))] at k_192a
            have wp_193 : WP (σ_166 bg) (σ_166 bk) (σ_166 bl) (σ_166 bc tx.toNatClampNeg).toInt.toNat tx := by rw [((k_183a).trans ((k_182).trans (k_181))), ((k_186a).trans ((k_185).trans (k_184))), ((k_189a).trans ((k_188).trans (k_187))), ((k_192a).trans ((k_191).trans (k_190)))]; exact g_91
            exact W.zret (v := 0) hx hb hr rfl (fun t ht hW => ⟨⟨0, (σ_166, ρ_148), rfl, ⟨hB.2.1, hB.2.2, ⟨(show 0 ≤ (0 : Int32).toInt ∧ (0 : Int32).toInt ≤ 1 from ⟨by decide, by decide⟩), (show GX (σ bg) (σ_166 bg) tx from gx_173), (show KX (σ bk) (σ_166 bk) (σ bc) (σ_166 bc) tx from kx_180), (show WP (σ_166 bg) (σ_166 bk) (σ_166 bl) (σ_166 bc tx.toNatClampNeg).toInt.toNat tx from wp_193)⟩⟩, (show TP D cA L T r σ_166 ρ_148 t.heap from by rw [ht]; exact hB.1)⟩, hS.F ht⟩) hS.2.2 dX12_readsAll_105
          · skip
            have uc_169 := i_eq (n := 0) (by decide) c_169
            refine lv_iconst (v := 1) hx hb dX12_readsAll_100 (by decide) ?_
            refine lv_goto (tgt := 105) hx hb dX12_readsAll_101 (by decide) ?_
            have k_194 := FR.row fσ_127 tbg (fun j => by simp)
            have k_195 := FR.row fσ_147 tbg (fun j => by simp)
            have k_196a := congrFun eσ_166 bg
            rw [up2_row _ _ (tg_ne tbg th0 (by decide))] at k_196a
            have gx_197 : GX (σ bg) (σ_166 bg) tx := by rw [((k_196a).trans ((k_195).trans (k_194)))]; exact g_89
            have k_198 := FR.row fσ_127 tbk (fun j => by simp)
            have k_199 := FR.row fσ_147 tbk (fun j => by simp)
            have k_200a := congrFun eσ_166 bk
            rw [up2_row _ _ (tg_ne tbk th0 (by decide))] at k_200a
            have k_201 := FR.row fσ_127 tbc (fun j => by simp)
            have k_202 := FR.row fσ_147 tbc (fun j => by simp)
            have k_203a := congrFun eσ_166 bc
            rw [up2_row _ _ (tg_ne tbc th0 (by decide))] at k_203a
            have kx_204 : KX (σ bk) (σ_166 bk) (σ bc) (σ_166 bc) tx := by rw [((k_200a).trans ((k_199).trans (k_198))), ((k_203a).trans ((k_202).trans (k_201)))]; exact g_90
            have k_205 := FR.row fσ_127 tbg (fun j => by simp)
            have k_206 := FR.row fσ_147 tbg (fun j => by simp)
            have k_207a := congrFun eσ_166 bg
            rw [up2_row _ _ (tg_ne tbg th0 (by decide))] at k_207a
            have k_208 := FR.row fσ_127 tbk (fun j => by simp)
            have k_209 := FR.row fσ_147 tbk (fun j => by simp)
            have k_210a := congrFun eσ_166 bk
            rw [up2_row _ _ (tg_ne tbk th0 (by decide))] at k_210a
            have k_211 := FR.row fσ_127 tbl (fun j => by simp)
            have k_212 := FR.row fσ_147 tbl (fun j => by simp)
            have k_213a := congrFun eσ_166 bl
            rw [up2_row _ _ (tg_ne tbl th0 (by decide))] at k_213a
            have k_214 := FR.row fσ_127 tbc (fun j => by simp)
            have k_215 := FR.row fσ_147 tbc (fun j => by simp)
            have k_216a := congrFun eσ_166 bc
            rw [up2_row _ _ (tg_ne tbc th0 (by decide))] at k_216a
            have wp_217 : WP (σ_166 bg) (σ_166 bk) (σ_166 bl) (σ_166 bc tx.toNatClampNeg).toInt.toNat tx := by rw [((k_207a).trans ((k_206).trans (k_205))), ((k_210a).trans ((k_209).trans (k_208))), ((k_213a).trans ((k_212).trans (k_211))), ((k_216a).trans ((k_215).trans (k_214)))]; exact g_91
            exact W.zret (v := 1) hx hb hr rfl (fun t ht hW => ⟨⟨1, (σ_166, ρ_148), rfl, ⟨hB.2.1, hB.2.2, ⟨(show 0 ≤ (1 : Int32).toInt ∧ (1 : Int32).toInt ≤ 1 from ⟨by decide, by decide⟩), (show GX (σ bg) (σ_166 bg) tx from gx_197), (show KX (σ bk) (σ_166 bk) (σ bc) (σ_166 bc) tx from kx_204), (show WP (σ_166 bg) (σ_166 bk) (σ_166 bl) (σ_166 bc tx.toNatClampNeg).toInt.toNat tx from wp_217)⟩⟩, (show TP D cA L T r σ_166 ρ_148 t.heap from by rw [ht]; exact hB.1)⟩, hS.F ht⟩) hS.2.2 dX12_readsAll_105
        · skip
          have uc_165 := i_ne (n := (-1)) (by decide) c_165
          refine lv_aload_n hx hb dX12_readsAll_78 rfl (lv_at hl 1 rfl) ?_
          refine lv_iconst (v := 0) hx hb dX12_readsAll_79 (by decide) ?_
          refine lv_aload_n hx hb dX12_readsAll_80 rfl (lv_at hl 1 rfl) ?_
          refine t_gv hx hb hts hown hK hB mh0 th0 fi_12_8 rfl mw_5_224 dX12_readsAll_81 ?_
          refine t_ci (va_runV (As := [.int 0, .int (σ_147 h0 8)]) (rest := []) ⟨hx, hb, hml, hown, hts⟩ (cy_X12_fails l D cA L T r hG hLA.1 σ_147 ρ_148 hB.2.1 _ h0 mh0 th0 0 ((σ_147 h0 8)) (by first | omega | decide) (by first | omega | decide) (by first | omega | decide) (by first | omega | decide)) (cV hts mv_X12_fails mw_6_157 rfl rfl ⟨Nat.le_of_ble_eq_true rfl, Nat.le_of_ble_eq_true rfl⟩) (pV hB.1 hK hN mh0 th0 (show shp cA 12 _ _ _ = .inr (12, Fs12 _ _ _) from rfl) rfl) rfl rfl hl.1 rfl (lv_room (Nat.le_of_ble_eq_true rfl)) dX12_readsAll_84 ⟨Nat.le_of_ble_eq_true rfl, Nat.le_of_ble_eq_true rfl⟩) hLA hA hB hS (by decide) (fun x_220 σ_218 ρ_219 H locs hB fσ_218 pσ_218 hS => ?_)
          subst pσ_218
          have k_221 : σ_218 h0 8 = (σ_147 h0 8) := (FR.at fσ_218 th0 (by decide)).trans rfl
          have cq_222 : (σ_218 h0 8).toInt = (σ_147 h0 8).toInt := congrArg Int32.toInt k_221
          have k_223 : σ_218 h0 1 = (σ h0 1) := (FR.at fσ_218 th0 (by decide)).trans k_155
          have cq_224 : (σ_218 h0 1).toInt = (σ h0 1).toInt := congrArg Int32.toInt k_223
          have k_225 : σ_218 h0 12 = (σ_84 h0 12) := (FR.at fσ_218 th0 (by decide)).trans k_157
          have cq_226 : (σ_218 h0 12).toInt = (σ_84 h0 12).toInt := congrArg Int32.toInt k_225
          have k_227 : σ_218 bl tx.toNatClampNeg = (σ_84 bl tx.toNatClampNeg) := (FR.at fσ_218 tbl (by simp)).trans k_159
          have cq_228 : (σ_218 bl tx.toNatClampNeg).toInt = (σ_84 bl tx.toNatClampNeg).toInt := congrArg Int32.toInt k_227
          have k_229 : σ_218 bc tx.toNatClampNeg = (σ_84 bc tx.toNatClampNeg) := (FR.at fσ_218 tbc (by simp)).trans k_161
          have cq_230 : (σ_218 bc tx.toNatClampNeg).toInt = (σ_84 bc tx.toNatClampNeg).toInt := congrArg Int32.toInt k_229
          have k_231 : σ_218 h0 14 = (σ_84 h0 14) := (FR.at fσ_218 th0 (by decide)).trans k_163
          have cq_232 : (σ_218 h0 14).toInt = (σ_84 h0 14).toInt := congrArg Int32.toInt k_231
          refine lv_pop hx hb dX12_readsAll_87 rfl ?_
          refine lv_aload_n hx hb dX12_readsAll_88 rfl (lv_at hl 1 rfl) ?_
          refine lv_iconst (v := 0) hx hb dX12_readsAll_89 (by decide) ?_
          refine t_pi hx hb hts hown hK hLA hB hS mh0 th0 fi_12_1 rfl rfl rfl (by decide) (by decide) (Or.inl (by decide)) mw_5_217 dX12_readsAll_90 (fun H locs σ_233 eσ_233 hB hS => ?_)
          have k_234 : σ_233 h0 1 = 0 := by rw [eσ_233]; exact up2_same _ _ _ _
          refine lv_aload_n hx hb dX12_readsAll_93 rfl (lv_at hl 1 rfl) ?_
          refine t_gi hx hb hts hown hK hB mh0 th0 fi_12_9 rfl mw_5_225 dX12_readsAll_94 (fun x_235 ex_235 lx_235 ux_235 => ?_)
          have cx_235 := congrArg Int32.toInt ex_235
          refine lv_if_ne (tgt := 104) hx hb dX12_readsAll_97 (by decide) (fun c_236 => ?_) (fun c_236 => ?_)
          · skip
            have uc_236 := i_ne (n := 0) (by decide) c_236
            refine lv_iconst (v := 0) hx hb dX12_readsAll_104 (by decide) ?_
            have k_237 := FR.row fσ_127 tbg (fun j => by simp)
            have k_238 := FR.row fσ_147 tbg (fun j => by simp)
            have k_239 := FR.row fσ_218 tbg (fun j => by simp)
            have k_240a := congrFun eσ_233 bg
            rw [up2_row _ _ (tg_ne tbg th0 (by decide))] at k_240a
            have gx_241 : GX (σ bg) (σ_233 bg) tx := by rw [((k_240a).trans ((k_239).trans ((k_238).trans (k_237))))]; exact g_89
            have k_242 := FR.row fσ_127 tbk (fun j => by simp)
            have k_243 := FR.row fσ_147 tbk (fun j => by simp)
            have k_244 := FR.row fσ_218 tbk (fun j => by simp)
            have k_245a := congrFun eσ_233 bk
            rw [up2_row _ _ (tg_ne tbk th0 (by decide))] at k_245a
            have k_246 := FR.row fσ_127 tbc (fun j => by simp)
            have k_247 := FR.row fσ_147 tbc (fun j => by simp)
            have k_248 := FR.row fσ_218 tbc (fun j => by simp)
            have k_249a := congrFun eσ_233 bc
            rw [up2_row _ _ (tg_ne tbc th0 (by decide))] at k_249a
            have kx_250 : KX (σ bk) (σ_233 bk) (σ bc) (σ_233 bc) tx := by rw [((k_245a).trans ((k_244).trans ((k_243).trans (k_242)))), ((k_249a).trans ((k_248).trans ((k_247).trans (k_246))))]; exact g_90
            have k_251 := FR.row fσ_127 tbg (fun j => by simp)
            have k_252 := FR.row fσ_147 tbg (fun j => by simp)
            have k_253 := FR.row fσ_218 tbg (fun j => by simp)
            have k_254a := congrFun eσ_233 bg
            rw [up2_row _ _ (tg_ne tbg th0 (by decide))] at k_254a
            have k_255 := FR.row fσ_127 tbk (fun j => by simp)
            have k_256 := FR.row fσ_147 tbk (fun j => by simp)
            have k_257 := FR.row fσ_218 tbk (fun j => by simp)
            have k_258a := congrFun eσ_233 bk
            rw [up2_row _ _ (tg_ne tbk th0 (by decide))] at k_258a
            have k_259 := FR.row fσ_127 tbl (fun j => by simp)
            have k_260 := FR.row fσ_147 tbl (fun j => by simp)
            have k_261 := FR.row fσ_218 tbl (fun j => by simp)
            have k_262a := congrFun eσ_233 bl
            rw [up2_row _ _ (tg_ne tbl th0 (by decide))] at k_262a
            have k_263 := FR.row fσ_127 tbc (fun j => by simp)
            have k_264 := FR.row fσ_147 tbc (fun j => by simp)
            have k_265 := FR.row fσ_218 tbc (fun j => by simp)
            have k_266a := congrFun eσ_233 bc
            rw [up2_row _ _ (tg_ne tbc th0 (by decide))] at k_266a
            have wp_267 : WP (σ_233 bg) (σ_233 bk) (σ_233 bl) (σ_233 bc tx.toNatClampNeg).toInt.toNat tx := by rw [((k_254a).trans ((k_253).trans ((k_252).trans (k_251)))), ((k_258a).trans ((k_257).trans ((k_256).trans (k_255)))), ((k_262a).trans ((k_261).trans ((k_260).trans (k_259)))), ((k_266a).trans ((k_265).trans ((k_264).trans (k_263))))]; exact g_91
            exact W.zret (v := 0) hx hb hr rfl (fun t ht hW => ⟨⟨0, (σ_233, ρ_219), rfl, ⟨hB.2.1, hB.2.2, ⟨(show 0 ≤ (0 : Int32).toInt ∧ (0 : Int32).toInt ≤ 1 from ⟨by decide, by decide⟩), (show GX (σ bg) (σ_233 bg) tx from gx_241), (show KX (σ bk) (σ_233 bk) (σ bc) (σ_233 bc) tx from kx_250), (show WP (σ_233 bg) (σ_233 bk) (σ_233 bl) (σ_233 bc tx.toNatClampNeg).toInt.toNat tx from wp_267)⟩⟩, (show TP D cA L T r σ_233 ρ_219 t.heap from by rw [ht]; exact hB.1)⟩, hS.F ht⟩) hS.2.2 dX12_readsAll_105
          · skip
            have uc_236 := i_eq (n := 0) (by decide) c_236
            refine lv_iconst (v := 1) hx hb dX12_readsAll_100 (by decide) ?_
            refine lv_goto (tgt := 105) hx hb dX12_readsAll_101 (by decide) ?_
            have k_268 := FR.row fσ_127 tbg (fun j => by simp)
            have k_269 := FR.row fσ_147 tbg (fun j => by simp)
            have k_270 := FR.row fσ_218 tbg (fun j => by simp)
            have k_271a := congrFun eσ_233 bg
            rw [up2_row _ _ (tg_ne tbg th0 (by decide))] at k_271a
            have gx_272 : GX (σ bg) (σ_233 bg) tx := by rw [((k_271a).trans ((k_270).trans ((k_269).trans (k_268))))]; exact g_89
            have k_273 := FR.row fσ_127 tbk (fun j => by simp)
            have k_274 := FR.row fσ_147 tbk (fun j => by simp)
            have k_275 := FR.row fσ_218 tbk (fun j => by simp)
            have k_276a := congrFun eσ_233 bk
            rw [up2_row _ _ (tg_ne tbk th0 (by decide))] at k_276a
            have k_277 := FR.row fσ_127 tbc (fun j => by simp)
            have k_278 := FR.row fσ_147 tbc (fun j => by simp)
            have k_279 := FR.row fσ_218 tbc (fun j => by simp)
            have k_280a := congrFun eσ_233 bc
            rw [up2_row _ _ (tg_ne tbc th0 (by decide))] at k_280a
            have kx_281 : KX (σ bk) (σ_233 bk) (σ bc) (σ_233 bc) tx := by rw [((k_276a).trans ((k_275).trans ((k_274).trans (k_273)))), ((k_280a).trans ((k_279).trans ((k_278).trans (k_277))))]; exact g_90
            have k_282 := FR.row fσ_127 tbg (fun j => by simp)
            have k_283 := FR.row fσ_147 tbg (fun j => by simp)
            have k_284 := FR.row fσ_218 tbg (fun j => by simp)
            have k_285a := congrFun eσ_233 bg
            rw [up2_row _ _ (tg_ne tbg th0 (by decide))] at k_285a
            have k_286 := FR.row fσ_127 tbk (fun j => by simp)
            have k_287 := FR.row fσ_147 tbk (fun j => by simp)
            have k_288 := FR.row fσ_218 tbk (fun j => by simp)
            have k_289a := congrFun eσ_233 bk
            rw [up2_row _ _ (tg_ne tbk th0 (by decide))] at k_289a
            have k_290 := FR.row fσ_127 tbl (fun j => by simp)
            have k_291 := FR.row fσ_147 tbl (fun j => by simp)
            have k_292 := FR.row fσ_218 tbl (fun j => by simp)
            have k_293a := congrFun eσ_233 bl
            rw [up2_row _ _ (tg_ne tbl th0 (by decide))] at k_293a
            have k_294 := FR.row fσ_127 tbc (fun j => by simp)
            have k_295 := FR.row fσ_147 tbc (fun j => by simp)
            have k_296 := FR.row fσ_218 tbc (fun j => by simp)
            have k_297a := congrFun eσ_233 bc
            rw [up2_row _ _ (tg_ne tbc th0 (by decide))] at k_297a
            have wp_298 : WP (σ_233 bg) (σ_233 bk) (σ_233 bl) (σ_233 bc tx.toNatClampNeg).toInt.toNat tx := by rw [((k_285a).trans ((k_284).trans ((k_283).trans (k_282)))), ((k_289a).trans ((k_288).trans ((k_287).trans (k_286)))), ((k_293a).trans ((k_292).trans ((k_291).trans (k_290)))), ((k_297a).trans ((k_296).trans ((k_295).trans (k_294))))]; exact g_91
            exact W.zret (v := 1) hx hb hr rfl (fun t ht hW => ⟨⟨1, (σ_233, ρ_219), rfl, ⟨hB.2.1, hB.2.2, ⟨(show 0 ≤ (1 : Int32).toInt ∧ (1 : Int32).toInt ≤ 1 from ⟨by decide, by decide⟩), (show GX (σ bg) (σ_233 bg) tx from gx_272), (show KX (σ bk) (σ_233 bk) (σ bc) (σ_233 bc) tx from kx_281), (show WP (σ_233 bg) (σ_233 bk) (σ_233 bl) (σ_233 bc tx.toNatClampNeg).toInt.toNat tx from wp_298)⟩⟩, (show TP D cA L T r σ_233 ρ_219 t.heap from by rw [ht]; exact hB.1)⟩, hS.F ht⟩) hS.2.2 dX12_readsAll_105
    · skip
      have uc_145 := i_eq (n := 59) (by decide) c_145
      refine lv_aload_n hx hb dX12_readsAll_48 rfl (lv_at hl 1 rfl) ?_
      refine lv_dup hx hb dX12_readsAll_49 rfl ?_
      refine t_gv hx hb hts hown hK hB mh0 th0 fi_12_8 rfl mw_5_224 dX12_readsAll_50 ?_
      refine lv_iconst (v := 1) hx hb dX12_readsAll_53 (by decide) ?_
      refine lv_iadd hx hb dX12_readsAll_54 ?_
      refine lv_topi (fun x_299 ex_299 => ?_)
      have vx_299 := b_add (rfl : (σ_127 h0 8).toInt = _) (by decide : (1 : Int32).toInt = 1) ex_299 (by omega) (by omega)
      refine t_pi hx hb hts hown hK hLA hB hS mh0 th0 fi_12_8 rfl rfl rfl (by first | omega | (subst_vars; omega)) (by first | omega | (subst_vars; omega)) (Or.inl (by decide)) mw_5_224 dX12_readsAll_55 (fun H locs σ_300 eσ_300 hB hS => ?_)
      have k_301 : σ_300 h0 8 = x_299 := by rw [eσ_300]; exact up2_same _ _ _ _
      refine lv_aload_n hx hb dX12_readsAll_58 rfl (lv_at hl 1 rfl) ?_
      have cq_302 : (σ_300 h0 8).toInt = x_299.toInt := congrArg Int32.toInt k_301
      have k_303 : σ_300 h0 1 = (σ h0 1) := by rw [eσ_300, up2_nej _ _ (by decide)]; exact k_135
      have cq_304 : (σ_300 h0 1).toInt = (σ h0 1).toInt := congrArg Int32.toInt k_303
      have k_305 : σ_300 h0 12 = (σ_84 h0 12) := by rw [eσ_300, up2_nej _ _ (by decide)]; exact k_137
      have cq_306 : (σ_300 h0 12).toInt = (σ_84 h0 12).toInt := congrArg Int32.toInt k_305
      have k_307 : σ_300 bl tx.toNatClampNeg = (σ_84 bl tx.toNatClampNeg) := by rw [eσ_300, up2_nea _ _ (tg_ne tbl th0 (by decide))]; exact k_139
      have cq_308 : (σ_300 bl tx.toNatClampNeg).toInt = (σ_84 bl tx.toNatClampNeg).toInt := congrArg Int32.toInt k_307
      have k_309 : σ_300 bc tx.toNatClampNeg = (σ_84 bc tx.toNatClampNeg) := by rw [eσ_300, up2_nea _ _ (tg_ne tbc th0 (by decide))]; exact k_141
      have cq_310 : (σ_300 bc tx.toNatClampNeg).toInt = (σ_84 bc tx.toNatClampNeg).toInt := congrArg Int32.toInt k_309
      have k_311 : σ_300 h0 14 = (σ_84 h0 14) := by rw [eσ_300, up2_nej _ _ (by decide)]; exact k_143
      have cq_312 : (σ_300 h0 14).toInt = (σ_84 h0 14).toInt := congrArg Int32.toInt k_311
      have k_313 : σ_127 h0 11 = tx := (FR.at fσ_127 th0 (by decide)).trans k_87
      have k_314 : σ_300 h0 11 = tx := by rw [eσ_300, up2_nej _ _ (by decide)]; exact k_313
      refine t_ci (va_runV (As := []) (rest := []) ⟨hx, hb, hml, hown, hts⟩ (cz_X12_clauseHere_r l D cA L T r hG hLA.1 σ_300 ρ_128 hB.2.1 _ h0 mh0 th0 bt hbt mbt tbt bg hbg mbg tbg bl hbl mbl tbl bk hbk mbk tbk bc hbc mbc tbc tx k_314 (by first | omega | decide) (by first | omega | decide) (by rw [k_307, k_301, k_309, k_311]; omega)) (cV hts mv_X12_clauseHere mw_6_130 rfl rfl ⟨Nat.le_of_ble_eq_true rfl, Nat.le_of_ble_eq_true rfl⟩) (pV hB.1 hK hN mh0 th0 (show shp cA 12 _ _ _ = .inr (12, Fs12 _ _ _) from rfl) rfl) rfl rfl hl.1 rfl (lv_room (Nat.le_of_ble_eq_true rfl)) dX12_readsAll_59 ⟨Nat.le_of_ble_eq_true rfl, Nat.le_of_ble_eq_true rfl⟩) hLA hA hB hS (by decide) (fun x_317 σ_315 ρ_316 H locs hB fσ_315 pσ_315 hS => ?_)
      obtain ⟨g_318, g_319, g_320, g_321, g_322, g_323⟩ := pσ_315
      have w_324 : 0 ≤ (σ_315 bl tx.toNatClampNeg).toInt ∧ (σ_315 bl tx.toNatClampNeg).toInt ≤ 400 := by have z := hB.2.1 bl mbl tx.toNatClampNeg; rw [tbl] at z; exact z
      have w_325 : 0 ≤ (σ_315 h0 8).toInt ∧ (σ_315 h0 8).toInt ≤ 400 := by have z := hB.2.1 h0 mh0 8; rw [th0] at z; exact z
      have w_326 : 0 ≤ (σ_315 h0 12).toInt ∧ (σ_315 h0 12).toInt ≤ 60 := by have z := hB.2.1 h0 mh0 12; rw [th0] at z; exact z
      have w_327 : 0 ≤ (σ_315 bc tx.toNatClampNeg).toInt ∧ (σ_315 bc tx.toNatClampNeg).toInt ≤ 12 := by have z := hB.2.1 bc mbc tx.toNatClampNeg; rw [tbc] at z; exact z
      have w_328 : (-2147483648) ≤ (σ_315 h0 14).toInt ∧ (σ_315 h0 14).toInt ≤ 2147483647 := by have z := hB.2.1 h0 mh0 14; rw [th0] at z; exact z
      obtain ⟨lx_317, ux_317⟩ := g_318
      have k_329 : σ_315 h0 1 = (σ h0 1) := (FR.at fσ_315 th0 (by decide)).trans k_303
      have cq_330 : (σ_315 h0 1).toInt = (σ h0 1).toInt := congrArg Int32.toInt k_329
      have k_331 := FR.row fσ_127 tbg (fun j => by simp)
      have k_332a := congrFun eσ_300 bg
      rw [up2_row _ _ (tg_ne tbg th0 (by decide))] at k_332a
      have gx_333 : GX (σ bg) (σ_300 bg) tx := by rw [((k_332a).trans (k_331))]; exact g_89
      have gx_334 := GX.tr gx_333 (EX.gx g_320)
      have k_335 := FR.row fσ_127 tbk (fun j => by simp)
      have k_336a := congrFun eσ_300 bk
      rw [up2_row _ _ (tg_ne tbk th0 (by decide))] at k_336a
      have k_337 := FR.row fσ_127 tbc (fun j => by simp)
      have k_338a := congrFun eσ_300 bc
      rw [up2_row _ _ (tg_ne tbc th0 (by decide))] at k_338a
      have kx_339 : KX (σ bk) (σ_300 bk) (σ bc) (σ_300 bc) tx := by rw [((k_336a).trans (k_335)), ((k_338a).trans (k_337))]; exact g_90
      have kx_340 := KX.tr kx_339 g_321
      have k_341 := FR.row fσ_127 tbg (fun j => by simp)
      have k_342a := congrFun eσ_300 bg
      rw [up2_row _ _ (tg_ne tbg th0 (by decide))] at k_342a
      have k_343 := FR.row fσ_127 tbk (fun j => by simp)
      have k_344a := congrFun eσ_300 bk
      rw [up2_row _ _ (tg_ne tbk th0 (by decide))] at k_344a
      have k_345 := FR.row fσ_127 tbl (fun j => by simp)
      have k_346a := congrFun eσ_300 bl
      rw [up2_row _ _ (tg_ne tbl th0 (by decide))] at k_346a
      have k_347 := FR.row fσ_127 tbc (fun j => by simp)
      have k_348a := congrFun eσ_300 bc
      rw [up2_row _ _ (tg_ne tbc th0 (by decide))] at k_348a
      have wp_349 : WP (σ_300 bg) (σ_300 bk) (σ_300 bl) (σ_300 bc tx.toNatClampNeg).toInt.toNat tx := by rw [((k_342a).trans (k_341)), ((k_344a).trans (k_343)), ((k_346a).trans (k_345)), ((k_348a).trans (k_347))]; exact g_91
      have wp_350 := g_322 wp_349
      refine lv_istore_n (lv' := [(1, .int x_317), (0, .ref h0)]) hx hb dX12_readsAll_62 rfl hl (by decide) rfl (fun ls hl => ?_)
      refine lv_goto (tgt := 35) hx hb dX12_readsAll_63 (by decide) ?_
      have k_351 : σ_315 h0 11 = tx := (FR.at fσ_315 th0 (by decide)).trans k_314
      exact ih_86 ⟨x_317, σ_315, ρ_316⟩ _ _ _ ⟨(by omega), (by omega), k_351, k_329, gx_334, kx_340, wp_350, g_323, hB, hS, lv_sub hl [0, 1] rfl⟩ (by show (400 - (σ_315 h0 8).toInt).toNat < (400 - (σ_84 h0 8).toInt).toNat; omega)
theorem mw_6_128 : (.instanceMethod yX12_readsAll : Cond) ∈ wsA := wsA_t (List.mem_append_right _ (List.mem_append_right _ (List.mem_append_right _ (List.mem_append_right _ (List.mem_append_right _ (List.mem_append_left _ (List.mem_of_getElem? (l := tables_1_6) (i := 128) rfl))))))) rfl
theorem mp_3_11 : (.selects RX12 yX12_readsAll yX12_readsAll : Cond) ∈ wsA := wsA_p (q := (yX12_readsAll, 44)) (List.mem_append_right _ (List.mem_append_right _ (List.mem_append_left _ (List.mem_of_getElem? (l := lw_privs_3) (i := 11) rfl))))
theorem mw_6_129 : (.code yX12_readsAll cX12_readsAll 2 (some .boolean) : Cond) ∈ wsA := wsA_t (List.mem_append_right _ (List.mem_append_right _ (List.mem_append_right _ (List.mem_append_right _ (List.mem_append_right _ (List.mem_append_left _ (List.mem_of_getElem? (l := tables_1_6) (i := 129) rfl))))))) rfl
theorem mw_6_126 : (.methodLink RX12 279 yX12_readsAll : Cond) ∈ wsA := wsA_t (List.mem_append_right _ (List.mem_append_right _ (List.mem_append_right _ (List.mem_append_right _ (List.mem_append_right _ (List.mem_append_left _ (List.mem_of_getElem? (l := tables_1_6) (i := 126) rfl))))))) rfl
theorem dX12_rule_0 : decode cX12_rule 0 = .ok (.aload_n 0, 1) := by decide +kernel
theorem dX12_rule_1 : decode cX12_rule 1 = .ok (.getfield 276, 3) := by decide +kernel
theorem dX12_rule_4 : decode cX12_rule 4 = .ok (.bipush 6, 2) := by decide +kernel
theorem dX12_rule_6 : decode cX12_rule 6 = .ok (.if_icmp .ne 5, 3) := by decide +kernel
theorem dX12_rule_11 : decode cX12_rule 11 = .ok (.aload_n 0, 1) := by decide +kernel
theorem dX12_rule_12 : decode cX12_rule 12 = .ok (.aload_n 0, 1) := by decide +kernel
theorem dX12_rule_13 : decode cX12_rule 13 = .ok (.getfield 276, 3) := by decide +kernel
theorem dX12_rule_16 : decode cX12_rule 16 = .ok (.putfield 154, 3) := by decide +kernel
theorem dX12_rule_19 : decode cX12_rule 19 = .ok (.aload_n 0, 1) := by decide +kernel
theorem dX12_rule_20 : decode cX12_rule 20 = .ok (.getfield 23, 3) := by decide +kernel
theorem dX12_rule_23 : decode cX12_rule 23 = .ok (.aload_n 0, 1) := by decide +kernel
theorem dX12_rule_24 : decode cX12_rule 24 = .ok (.getfield 154, 3) := by decide +kernel
theorem dX12_rule_27 : decode cX12_rule 27 = .ok (.iconst 0, 1) := by decide +kernel
theorem dX12_rule_28 : decode cX12_rule 28 = .ok (.iastore, 1) := by decide +kernel
theorem dX12_rule_29 : decode cX12_rule 29 = .ok (.aload_n 0, 1) := by decide +kernel
theorem dX12_rule_30 : decode cX12_rule 30 = .ok (.invokevirtual 279, 3) := by decide +kernel
theorem dX12_rule_33 : decode cX12_rule 33 = .ok (.ifCond .ne 11, 3) := by decide +kernel
theorem dX12_rule_44 : decode cX12_rule 44 = .ok (.aload_n 0, 1) := by decide +kernel
theorem dX12_rule_45 : decode cX12_rule 45 = .ok (.dup, 1) := by decide +kernel
theorem dX12_rule_46 : decode cX12_rule 46 = .ok (.getfield 276, 3) := by decide +kernel
theorem dX12_rule_49 : decode cX12_rule 49 = .ok (.iconst 1, 1) := by decide +kernel
theorem dX12_rule_50 : decode cX12_rule 50 = .ok (.iadd, 1) := by decide +kernel
theorem dX12_rule_51 : decode cX12_rule 51 = .ok (.putfield 276, 3) := by decide +kernel
theorem dX12_rule_54 : decode cX12_rule 54 = .ok (.aload_n 0, 1) := by decide +kernel
theorem dX12_rule_55 : decode cX12_rule 55 = .ok (.getfield 276, 3) := by decide +kernel
theorem dX12_rule_58 : decode cX12_rule 58 = .ok (.iconst 1, 1) := by decide +kernel
theorem dX12_rule_59 : decode cX12_rule 59 = .ok (.isub, 1) := by decide +kernel
theorem dX12_rule_60 : decode cX12_rule 60 = .ok (.ireturn, 1) := by decide +kernel
theorem dX12_rule_36 : decode cX12_rule 36 = .ok (.bipush (-2), 2) := by decide +kernel
theorem dX12_rule_38 : decode cX12_rule 38 = .ok (.aload_n 0, 1) := by decide +kernel
theorem dX12_rule_39 : decode cX12_rule 39 = .ok (.getfield 99, 3) := by decide +kernel
theorem dX12_rule_42 : decode cX12_rule 42 = .ok (.isub, 1) := by decide +kernel
theorem dX12_rule_43 : decode cX12_rule 43 = .ok (.ireturn, 1) := by decide +kernel
theorem dX12_rule_9 : decode cX12_rule 9 = .ok (.iconst (-1), 1) := by decide +kernel
theorem dX12_rule_10 : decode cX12_rule 10 = .ok (.ireturn, 1) := by decide +kernel
theorem mv_X12_readsAll : MV RX12 yX12_readsAll cX12_readsAll 2 (some .boolean) 0 := ⟨mw_6_128, mp_3_11, mw_1_13, mw_6_129, ⟨rfl, by decide, by decide, by decide +kernel⟩⟩
set_option maxHeartbeats 4000000 in
set_option maxRecDepth 100000 in
theorem cz_X12_rule (l : Launch) (D : va_G) (cA : Nat → ClassId) (L : List Nat) (T : Nat → Nat) (r : Rg) (hG : GR L T r) (hL : L.Nodup) (σ : Sg) (ρ : Lg) (hW : WT L ry T σ) (sz : Nat) (h0 : Nat) (mh0 : h0 ∈ L) (th0 : T h0 = 12) (bt : Nat) (hbt : r h0 0 = some bt) (mbt : bt ∈ L) (tbt : T bt = 61) (bg : Nat) (hbg : r h0 3 = some bg) (mbg : bg ∈ L) (tbg : T bg = 62) (bl : Nat) (hbl : r h0 4 = some bl) (mbl : bl ∈ L) (tbl : T bl = 63) (bk : Nat) (hbk : r h0 5 = some bk) (mbk : bk ∈ L) (tbk : T bk = 64) (bc : Nat) (hbc : r h0 6 = some bc) (mbc : bc ∈ L) (tbc : T bc = 65) (w0 : WR (σ bg) (σ bk) (σ bc) (σ h0 2).toInt.toNat) : Met l yX12_rule (.code yX12_rule cX12_rule 1 (some .int) :: wsA) ({ frames := 12, cells := 0, slots := 0, locals := 262 }) (PR D cA L T r σ ρ sz [.ref h0]) (QI D cA L T r ry [(12, 1), (12, 2), (12, 8), (12, 9), (12, 10), (12, 11), (12, 12), (12, 13), (12, 14), (12, 16), (62, 1000), (63, 1000), (64, 1000), (65, 1000), (67, 1000)] σ sz (fun x σ1 => (WR (σ1 bg) (σ1 bk) (σ1 bc) (σ1 h0 2).toInt.toNat) ∧ ((σ h0 2).toInt ≤ (σ1 h0 2).toInt))) 0 0 (dm L sz) := by
  refine Met.ofW (cc := cX12_rule) (maxL := 1) (ret := (some .int)) (by decide) rfl ?_
  intro p e s m args below meth c s₁ B hml hv
  obtain ⟨rfl, hsz, hP, hK, hN⟩ := hv
  have hx := B.exec
  have hb := B.bytes
  have hr := B.returns
  have hts : ∀ w ∈ wsA, w.before _ s = true := fun w h => atoms_spec (ws := .code yX12_rule cX12_rule 1 (some .int) :: wsA) B.pre w (List.mem_cons_of_mem _ h)
  have hown : s.vm.findClass RX12 = some m.cls := findClass_of_methodNamed B.named
  subst hsz
  have hLA : LA (dm L s.heap.size) L := ⟨hL, fun a h => Or.inl h⟩
  have hA : ∀ q : Nat, s.heap.size ≤ q → dm L s.heap.size q := fun q h => Or.inr h
  have hS : va_S (dm L s.heap.size) s.heap s.heap [] := va_S.rf
  have hB : TS D cA L T r ry [(12, 1), (12, 2), (12, 8), (12, 9), (12, 10), (12, 11), (12, 12), (12, 13), (12, 14), (12, 16), (62, 1000), (63, 1000), (64, 1000), (65, 1000), (67, 1000)] σ σ ρ s.heap := ⟨hP, hW, FR.rf⟩
  have hl := lv_entry ([.ref h0]) (n := 1) (Nat.le_of_ble_eq_true rfl)
  rw [lg_entry_eq]
  generalize (lg_sl ([.ref h0]) ++ List.replicate (1 - (lg_sl ([.ref h0])).length) Slot.unset).toArray = ls at hl ⊢
  have hl : lv_has ls 1 [(0, .ref h0)] := hl
  refine lv_aload_n hx hb dX12_rule_0 rfl (lv_at hl 0 rfl) ?_
  refine t_gi hx hb hts hown hK hB mh0 th0 fi_12_2 rfl mw_5_218 dX12_rule_1 (fun x_1 ex_1 lx_1 ux_1 => ?_)
  have cx_1 := congrArg Int32.toInt ex_1
  refine lv_bipush (v := 6) hx hb dX12_rule_4 (by decide) ?_
  refine lv_icmp_ne (tgt := 11) hx hb dX12_rule_6 (by decide) (fun c_2 => ?_) (fun c_2 => ?_)
  · skip
    have uc_2 := i_ne (n := 6) (by decide) c_2
    refine lv_aload_n hx hb dX12_rule_11 rfl (lv_at hl 0 rfl) ?_
    refine lv_aload_n hx hb dX12_rule_12 rfl (lv_at hl 0 rfl) ?_
    refine t_gv hx hb hts hown hK hB mh0 th0 fi_12_2 ex_1.symm mw_5_218 dX12_rule_13 ?_
    refine t_pi hx hb hts hown hK hLA hB hS mh0 th0 fi_12_11 rfl rfl rfl (by first | omega | (subst_vars; omega)) (by first | omega | (subst_vars; omega)) (Or.inl (by decide)) mw_5_227 dX12_rule_16 (fun H locs σ_3 eσ_3 hB hS => ?_)
    have k_4 : σ_3 h0 11 = x_1 := by rw [eσ_3]; exact up2_same _ _ _ _
    refine lv_aload_n hx hb dX12_rule_19 rfl (lv_at hl 0 rfl) ?_
    refine t_gk hx hb hts hown hK hB mh0 th0 fq_12_6 hbc mw_5_222 dX12_rule_20 ?_
    refine lv_aload_n hx hb dX12_rule_23 rfl (lv_at hl 0 rfl) ?_
    refine t_gv hx hb hts hown hK hB mh0 th0 fi_12_11 k_4 mw_5_227 dX12_rule_24 ?_
    refine lv_iconst (v := 0) hx hb dX12_rule_27 (by decide) ?_
    refine t_si hx hb hK hLA hB hS mbc tbc ai_65 (i_in (by omega) (by omega)) (show 0 ≤ (0 : Int32).toInt by decide) (show (0 : Int32).toInt ≤ 12 by decide) (Or.inr (by decide)) dX12_rule_28 (fun H locs σ_5 eσ_5 hB hS => ?_)
    have k_6 : σ_5 bc x_1.toNatClampNeg = 0 := by rw [eσ_5]; exact up2_same _ _ _ _
    refine lv_aload_n hx hb dX12_rule_29 rfl (lv_at hl 0 rfl) ?_
    have k_7 : σ_5 h0 11 = x_1 := by rw [eσ_5, up2_nea _ _ (tg_ne th0 tbc (by decide))]; exact k_4
    refine t_ci (va_runV (As := []) (rest := []) ⟨hx, hb, hml, hown, hts⟩ (cz_X12_readsAll_r l D cA L T r hG hLA.1 σ_5 ρ hB.2.1 _ h0 mh0 th0 bt hbt mbt tbt bg hbg mbg tbg bl hbl mbl tbl bk hbk mbk tbk bc hbc mbc tbc x_1 k_7 (by first | omega | decide) (by first | omega | decide) (by rw [k_6]; decide)) (cV hts mv_X12_readsAll mw_6_126 rfl rfl ⟨Nat.le_of_ble_eq_true rfl, Nat.le_of_ble_eq_true rfl⟩) (pV hB.1 hK hN mh0 th0 (show shp cA 12 _ _ _ = .inr (12, Fs12 _ _ _) from rfl) rfl) rfl rfl hl.1 rfl (lv_room (Nat.le_of_ble_eq_true rfl)) dX12_rule_30 ⟨Nat.le_of_ble_eq_true rfl, Nat.le_of_ble_eq_true rfl⟩) hLA hA hB hS (by decide) (fun x_10 σ_8 ρ_9 H locs hB fσ_8 pσ_8 hS => ?_)
    obtain ⟨g_11, g_12, g_13, g_14⟩ := pσ_8
    obtain ⟨lx_10, ux_10⟩ := g_11
    refine lv_if_ne (tgt := 44) hx hb dX12_rule_33 (by decide) (fun c_15 => ?_) (fun c_15 => ?_)
    · skip
      have uc_15 := i_ne (n := 0) (by decide) c_15
      refine lv_aload_n hx hb dX12_rule_44 rfl (lv_at hl 0 rfl) ?_
      refine lv_dup hx hb dX12_rule_45 rfl ?_
      have k_16 : σ_3 h0 2 = x_1 := by rw [eσ_3, up2_nej _ _ (by decide)]; exact ex_1.symm
      have k_17 : σ_5 h0 2 = x_1 := by rw [eσ_5, up2_nea _ _ (tg_ne th0 tbc (by decide))]; exact k_16
      have k_18 : σ_8 h0 2 = x_1 := (FR.at fσ_8 th0 (by decide)).trans k_17
      refine t_gv hx hb hts hown hK hB mh0 th0 fi_12_2 k_18 mw_5_218 dX12_rule_46 ?_
      refine lv_iconst (v := 1) hx hb dX12_rule_49 (by decide) ?_
      refine lv_iadd hx hb dX12_rule_50 ?_
      refine lv_topi (fun x_19 ex_19 => ?_)
      have vx_19 := b_add (rfl : x_1.toInt = _) (by decide : (1 : Int32).toInt = 1) ex_19 (by omega) (by omega)
      refine t_pi hx hb hts hown hK hLA hB hS mh0 th0 fi_12_2 rfl rfl rfl (by first | omega | (subst_vars; omega)) (by first | omega | (subst_vars; omega)) (Or.inl (by decide)) mw_5_218 dX12_rule_51 (fun H locs σ_20 eσ_20 hB hS => ?_)
      have k_21 : σ_20 h0 2 = x_19 := by rw [eσ_20]; exact up2_same _ _ _ _
      refine lv_aload_n hx hb dX12_rule_54 rfl (lv_at hl 0 rfl) ?_
      refine t_gv hx hb hts hown hK hB mh0 th0 fi_12_2 k_21 mw_5_218 dX12_rule_55 ?_
      refine lv_iconst (v := 1) hx hb dX12_rule_58 (by decide) ?_
      refine lv_isub hx hb dX12_rule_59 ?_
      refine lv_topi (fun x_22 ex_22 => ?_)
      have vx_22 := b_sub (rfl : x_19.toInt = _) (by decide : (1 : Int32).toInt = 1) ex_22 (by omega) (by omega)
      have k_23a := congrFun eσ_3 bk
      rw [up2_row _ _ (tg_ne tbk th0 (by decide))] at k_23a
      have k_24a := congrFun eσ_5 bk
      rw [up2_row _ _ (tg_ne tbk tbc (by decide))] at k_24a
      have k_25a := congrFun eσ_3 bc
      rw [up2_row _ _ (tg_ne tbc th0 (by decide))] at k_25a
      have rk0 : KX (σ bk) (σ_5 bk) (σ bc) (σ_5 bc) x_1 := ⟨fun j hj => by rw [((k_24a).trans (k_23a))], fun j hj => by rw [eσ_5, up2_nej _ _ hj, (k_25a)]⟩
      have rk1 := KX.tr rk0 g_13
      have k_26a := congrFun eσ_3 bg
      rw [up2_row _ _ (tg_ne tbg th0 (by decide))] at k_26a
      have k_27a := congrFun eσ_5 bg
      rw [up2_row _ _ (tg_ne tbg tbc (by decide))] at k_27a
      have rg1 : GX (σ bg) (σ_8 bg) x_1 := by have z := g_12; rw [((k_27a).trans (k_26a))] at z; exact z
      have r12 : ∀ r : Nat, (σ bc r).toInt ≤ 12 := fun r => (by have z := hW bc mbc r; rw [tbc] at z; exact z.2)
      have rw0 : WR (σ bg) (σ bk) (σ bc) x_1.toInt.toNat := by rw [show x_1 = σ h0 2 from ex_1]; exact w0
      have r40 : (σ_20 bl x_1.toNatClampNeg).toInt ≤ 400 := (by have z := hB.2.1 bl mbl x_1.toNatClampNeg; rw [tbl] at z; exact z.2)
      have k_28a := congrFun eσ_20 bl
      rw [up2_row _ _ (tg_ne tbl th0 (by decide))] at k_28a
      have rl0 : σ_20 bl = σ_8 bl := (k_28a)
      have k_29a := congrFun eσ_20 bg
      rw [up2_row _ _ (tg_ne tbg th0 (by decide))] at k_29a
      have k_30a := congrFun eσ_20 bk
      rw [up2_row _ _ (tg_ne tbk th0 (by decide))] at k_30a
      have k_31a := congrFun eσ_20 bc
      rw [up2_row _ _ (tg_ne tbc th0 (by decide))] at k_31a
      exact W.iret (v := x_22) hx hb hr (fun t ht hW => ⟨⟨x_22, (σ_20, ρ_9), rfl, ⟨hB.2.1, hB.2.2, ⟨(show WR (σ_20 bg) (σ_20 bk) (σ_20 bc) (σ_20 h0 2).toInt.toNat from (by rw [k_21, show x_19.toInt.toNat = x_1.toInt.toNat + 1 by omega, (k_29a), (k_30a), (k_31a)]; exact WR.yes rw0 rg1 rk1 r12 g_14 (by rw [← rl0]; exact r40))), (show (σ h0 2).toInt ≤ (σ_20 h0 2).toInt from (by rw [k_21]; omega))⟩⟩, (show TP D cA L T r σ_20 ρ_9 t.heap from by rw [ht]; exact hB.1)⟩, hS.F ht⟩) hS.2.2 dX12_rule_60
    · skip
      have uc_15 := i_eq (n := 0) (by decide) c_15
      refine lv_bipush (v := (-2)) hx hb dX12_rule_36 (by decide) ?_
      refine lv_aload_n hx hb dX12_rule_38 rfl (lv_at hl 0 rfl) ?_
      refine t_gi hx hb hts hown hK hB mh0 th0 fi_12_9 rfl mw_5_225 dX12_rule_39 (fun x_32 ex_32 lx_32 ux_32 => ?_)
      have cx_32 := congrArg Int32.toInt ex_32
      refine lv_isub hx hb dX12_rule_42 ?_
      refine lv_topi (fun x_33 ex_33 => ?_)
      try have vx_33 := b_sub (by decide : ((-2) : Int32).toInt = (-2)) (rfl : x_32.toInt = _) ex_33 (by omega) (by omega)
      have k_34a := congrFun eσ_3 bk
      rw [up2_row _ _ (tg_ne tbk th0 (by decide))] at k_34a
      have k_35a := congrFun eσ_5 bk
      rw [up2_row _ _ (tg_ne tbk tbc (by decide))] at k_35a
      have k_36a := congrFun eσ_3 bc
      rw [up2_row _ _ (tg_ne tbc th0 (by decide))] at k_36a
      have rk0 : KX (σ bk) (σ_5 bk) (σ bc) (σ_5 bc) x_1 := ⟨fun j hj => by rw [((k_35a).trans (k_34a))], fun j hj => by rw [eσ_5, up2_nej _ _ hj, (k_36a)]⟩
      have rk1 := KX.tr rk0 g_13
      have k_37a := congrFun eσ_3 bg
      rw [up2_row _ _ (tg_ne tbg th0 (by decide))] at k_37a
      have k_38a := congrFun eσ_5 bg
      rw [up2_row _ _ (tg_ne tbg tbc (by decide))] at k_38a
      have rg1 : GX (σ bg) (σ_8 bg) x_1 := by have z := g_12; rw [((k_38a).trans (k_37a))] at z; exact z
      have r12 : ∀ r : Nat, (σ bc r).toInt ≤ 12 := fun r => (by have z := hW bc mbc r; rw [tbc] at z; exact z.2)
      have rw0 : WR (σ bg) (σ bk) (σ bc) x_1.toInt.toNat := by rw [show x_1 = σ h0 2 from ex_1]; exact w0
      have k_39 : σ_3 h0 2 = x_1 := by rw [eσ_3, up2_nej _ _ (by decide)]; exact ex_1.symm
      have k_40 : σ_5 h0 2 = x_1 := by rw [eσ_5, up2_nea _ _ (tg_ne th0 tbc (by decide))]; exact k_39
      have k_41 : σ_8 h0 2 = x_1 := (FR.at fσ_8 th0 (by decide)).trans k_40
      exact W.iret (v := x_33) hx hb hr (fun t ht hW => ⟨⟨x_33, (σ_8, ρ_9), rfl, ⟨hB.2.1, hB.2.2, ⟨(show WR (σ_8 bg) (σ_8 bk) (σ_8 bc) (σ_8 h0 2).toInt.toNat from (by rw [k_41]; exact WR.no rw0 rg1 rk1 r12)), (show (σ h0 2).toInt ≤ (σ_8 h0 2).toInt from (by rw [k_41]; omega))⟩⟩, (show TP D cA L T r σ_8 ρ_9 t.heap from by rw [ht]; exact hB.1)⟩, hS.F ht⟩) hS.2.2 dX12_rule_43
  · skip
    have uc_2 := i_eq (n := 6) (by decide) c_2
    refine lv_iconst (v := (-1)) hx hb dX12_rule_9 (by decide) ?_
    exact W.iret (v := (-1)) hx hb hr (fun t ht hW => ⟨⟨(-1), (σ, ρ), rfl, ⟨hB.2.1, hB.2.2, ⟨(show WR (σ bg) (σ bk) (σ bc) (σ h0 2).toInt.toNat from w0), (show (σ h0 2).toInt ≤ (σ h0 2).toInt from (Int.le_refl _))⟩⟩, (show TP D cA L T r σ ρ t.heap from by rw [ht]; exact hB.1)⟩, hS.F ht⟩) hS.2.2 dX12_rule_10
