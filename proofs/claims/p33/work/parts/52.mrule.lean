theorem mw_6_156 : (.constantLong RX12 262 6386539 : Cond) ∈ wsA := wsA_t (List.mem_append_right _ (List.mem_append_right _ (List.mem_append_right _ (List.mem_append_right _ (List.mem_append_right _ (List.mem_append_left _ (List.mem_of_getElem? (l := tables_1_6) (i := 156) rfl))))))) rfl
theorem mw_5_230 : (.fieldLink RX12 264 "HillBendsModel" "lines" "I" : Cond) ∈ wsA := wsA_t (List.mem_append_right _ (List.mem_append_right _ (List.mem_append_right _ (List.mem_append_right _ (List.mem_append_left _ (List.mem_of_getElem? (l := tables_1_5) (i := 230) rfl)))))) rfl
theorem mw_6_214 : (.instanceMethod yX12_isAskHere : Cond) ∈ wsA := wsA_t (List.mem_append_right _ (List.mem_append_right _ (List.mem_append_right _ (List.mem_append_right _ (List.mem_append_right _ (List.mem_append_left _ (List.mem_of_getElem? (l := tables_1_6) (i := 214) rfl))))))) rfl
theorem mp_4_14 : (.selects RX12 yX12_isAskHere yX12_isAskHere : Cond) ∈ wsA := wsA_p (q := (yX12_isAskHere, 44)) (List.mem_append_right _ (List.mem_append_right _ (List.mem_append_right _ (List.mem_append_left _ (List.mem_of_getElem? (l := lw_privs_4) (i := 14) rfl)))))
theorem mw_6_215 : (.code yX12_isAskHere cX12_isAskHere 2 (some .boolean) : Cond) ∈ wsA := wsA_t (List.mem_append_right _ (List.mem_append_right _ (List.mem_append_right _ (List.mem_append_right _ (List.mem_append_right _ (List.mem_append_left _ (List.mem_of_getElem? (l := tables_1_6) (i := 215) rfl))))))) rfl
theorem mw_6_212 : (.methodLink RX12 270 yX12_isAskHere : Cond) ∈ wsA := wsA_t (List.mem_append_right _ (List.mem_append_right _ (List.mem_append_right _ (List.mem_append_right _ (List.mem_append_right _ (List.mem_append_left _ (List.mem_of_getElem? (l := tables_1_6) (i := 212) rfl))))))) rfl
theorem dX12_clauseHere_0 : decode cX12_clauseHere 0 = .ok (.aload_n 0, 1) := by decide +kernel
theorem dX12_clauseHere_1 : decode cX12_clauseHere 1 = .ok (.invokevirtual 105, 3) := by decide +kernel
theorem dX12_clauseHere_4 : decode cX12_clauseHere 4 = .ok (.pop, 1) := by decide +kernel
theorem dX12_clauseHere_5 : decode cX12_clauseHere 5 = .ok (.aload_n 0, 1) := by decide +kernel
theorem dX12_clauseHere_6 : decode cX12_clauseHere 6 = .ok (.getfield 102, 3) := by decide +kernel
theorem dX12_clauseHere_9 : decode cX12_clauseHere 9 = .ok (.istore_n 1, 1) := by decide +kernel
theorem dX12_clauseHere_10 : decode cX12_clauseHere 10 = .ok (.aload_n 0, 1) := by decide +kernel
theorem dX12_clauseHere_11 : decode cX12_clauseHere 11 = .ok (.getfield 154, 3) := by decide +kernel
theorem dX12_clauseHere_14 : decode cX12_clauseHere 14 = .ok (.bipush 6, 2) := by decide +kernel
theorem dX12_clauseHere_16 : decode cX12_clauseHere 16 = .ok (.if_icmp .ne 7, 3) := by decide +kernel
theorem dX12_clauseHere_23 : decode cX12_clauseHere 23 = .ok (.iconst 0, 1) := by decide +kernel
theorem dX12_clauseHere_24 : decode cX12_clauseHere 24 = .ok (.istore_n 2, 1) := by decide +kernel
theorem dX12_clauseHere_25 : decode cX12_clauseHere 25 = .ok (.iload_n 2, 1) := by decide +kernel
theorem dX12_clauseHere_26 : decode cX12_clauseHere 26 = .ok (.ifCond .eq 13, 3) := by decide +kernel
theorem dX12_clauseHere_39 : decode cX12_clauseHere 39 = .ok (.aload_n 0, 1) := by decide +kernel
theorem dX12_clauseHere_40 : decode cX12_clauseHere 40 = .ok (.ldc2_w 262, 3) := by decide +kernel
theorem dX12_clauseHere_43 : decode cX12_clauseHere 43 = .ok (.invokevirtual 113, 3) := by decide +kernel
theorem dX12_clauseHere_46 : decode cX12_clauseHere 46 = .ok (.ifCond .ne 10, 3) := by decide +kernel
theorem dX12_clauseHere_56 : decode cX12_clauseHere 56 = .ok (.aload_n 0, 1) := by decide +kernel
theorem dX12_clauseHere_57 : decode cX12_clauseHere 57 = .ok (.getfield 264, 3) := by decide +kernel
theorem dX12_clauseHere_60 : decode cX12_clauseHere 60 = .ok (.iload_n 2, 1) := by decide +kernel
theorem dX12_clauseHere_61 : decode cX12_clauseHere 61 = .ok (.ifCond .eq 8, 3) := by decide +kernel
theorem dX12_clauseHere_69 : decode cX12_clauseHere 69 = .ok (.bipush 12, 2) := by decide +kernel
theorem dX12_clauseHere_71 : decode cX12_clauseHere 71 = .ok (.if_icmp .ne 10, 3) := by decide +kernel
theorem dX12_clauseHere_81 : decode cX12_clauseHere 81 = .ok (.aload_n 0, 1) := by decide +kernel
theorem dX12_clauseHere_82 : decode cX12_clauseHere 82 = .ok (.dup, 1) := by decide +kernel
theorem dX12_clauseHere_83 : decode cX12_clauseHere 83 = .ok (.getfield 264, 3) := by decide +kernel
theorem dX12_clauseHere_86 : decode cX12_clauseHere 86 = .ok (.iconst 1, 1) := by decide +kernel
theorem dX12_clauseHere_87 : decode cX12_clauseHere 87 = .ok (.iadd, 1) := by decide +kernel
theorem dX12_clauseHere_88 : decode cX12_clauseHere 88 = .ok (.putfield 264, 3) := by decide +kernel
theorem dX12_clauseHere_91 : decode cX12_clauseHere 91 = .ok (.iload_n 2, 1) := by decide +kernel
theorem dX12_clauseHere_92 : decode cX12_clauseHere 92 = .ok (.ifCond .eq 11, 3) := by decide +kernel
theorem dX12_clauseHere_103 : decode cX12_clauseHere 103 = .ok (.aload_n 0, 1) := by decide +kernel
theorem dX12_clauseHere_104 : decode cX12_clauseHere 104 = .ok (.invokevirtual 270, 3) := by decide +kernel
theorem dX12_clauseHere_107 : decode cX12_clauseHere 107 = .ok (.ireturn, 1) := by decide +kernel
theorem dX12_clauseHere_74 : decode cX12_clauseHere 74 = .ok (.aload_n 0, 1) := by decide +kernel
theorem dX12_clauseHere_75 : decode cX12_clauseHere 75 = .ok (.iconst 4, 1) := by decide +kernel
theorem dX12_clauseHere_76 : decode cX12_clauseHere 76 = .ok (.iload_n 1, 1) := by decide +kernel
theorem dX12_clauseHere_77 : decode cX12_clauseHere 77 = .ok (.invokevirtual 123, 3) := by decide +kernel
theorem dX12_clauseHere_80 : decode cX12_clauseHere 80 = .ok (.ireturn, 1) := by decide +kernel
theorem dX12_clauseHere_49 : decode cX12_clauseHere 49 = .ok (.aload_n 0, 1) := by decide +kernel
theorem dX12_clauseHere_50 : decode cX12_clauseHere 50 = .ok (.iconst 0, 1) := by decide +kernel
theorem dX12_clauseHere_51 : decode cX12_clauseHere 51 = .ok (.iload_n 1, 1) := by decide +kernel
theorem dX12_clauseHere_52 : decode cX12_clauseHere 52 = .ok (.invokevirtual 123, 3) := by decide +kernel
theorem dX12_clauseHere_55 : decode cX12_clauseHere 55 = .ok (.ireturn, 1) := by decide +kernel
theorem mv_X12_isAskHere : MV RX12 yX12_isAskHere cX12_isAskHere 2 (some .boolean) 0 := ⟨mw_6_214, mp_4_14, mw_1_13, mw_6_215, ⟨rfl, by decide, by decide, by decide +kernel⟩⟩
set_option maxHeartbeats 4000000 in
set_option maxRecDepth 100000 in
theorem cz_X12_clauseHere_r (l : Launch) (D : va_G) (cA : Nat → ClassId) (L : List Nat) (T : Nat → Nat) (r : Rg) (hG : GR L T r) (hL : L.Nodup) (σ : Sg) (ρ : Lg) (hW : WT L ry T σ) (sz : Nat) (h0 : Nat) (mh0 : h0 ∈ L) (th0 : T h0 = 12) (bt : Nat) (hbt : r h0 0 = some bt) (mbt : bt ∈ L) (tbt : T bt = 61) (bg : Nat) (hbg : r h0 3 = some bg) (mbg : bg ∈ L) (tbg : T bg = 62) (bl : Nat) (hbl : r h0 4 = some bl) (mbl : bl ∈ L) (tbl : T bl = 63) (bk : Nat) (hbk : r h0 5 = some bk) (mbk : bk ∈ L) (tbk : T bk = 64) (bc : Nat) (hbc : r h0 6 = some bc) (mbc : bc ∈ L) (tbc : T bc = 65) (tx : Int32) (k0 : σ h0 11 = tx) (w0 : 0 ≤ tx.toInt) (w1 : tx.toInt ≤ 5) (w2 : (σ bl tx.toNatClampNeg).toInt ≤ (σ h0 8).toInt ∧ (σ bc tx.toNatClampNeg).toInt ≤ (σ h0 14).toInt ∧ 0 ≤ (σ h0 14).toInt ∧ (σ h0 14).toInt ≤ 12) : Met l yX12_clauseHere (.code yX12_clauseHere cX12_clauseHere 3 (some .boolean) :: wsA) ({ frames := 10, cells := 0, slots := 0, locals := 219 }) (PR D cA L T r σ ρ sz [.ref h0]) (QI D cA L T r ry [(12, 8), (12, 9), (12, 10), (12, 12), (12, 13), (12, 14), (12, 16), (62, 1000), (63, 1000), (64, 1000), (65, 1000), (67, 1000)] σ sz (fun x σ1 => (0 ≤ x.toInt ∧ x.toInt ≤ 1) ∧ ((σ h0 8).toInt ≤ (σ1 h0 8).toInt) ∧ (EX (σ bg) (σ bl) (σ1 bg) (σ1 bl) tx) ∧ (KX (σ bk) (σ1 bk) (σ bc) (σ1 bc) tx) ∧ (WP (σ bg) (σ bk) (σ bl) (σ bc tx.toNatClampNeg).toInt.toNat tx → WP (σ1 bg) (σ1 bk) (σ1 bl) (σ1 bc tx.toNatClampNeg).toInt.toNat tx) ∧ (x.toInt = 1 → (σ1 bl tx.toNatClampNeg).toInt ≤ (σ1 h0 8).toInt ∧ (σ1 bc tx.toNatClampNeg).toInt ≤ (σ1 h0 14).toInt ∧ 0 ≤ (σ1 h0 14).toInt ∧ (σ1 h0 14).toInt ≤ 12))) 0 0 (dm L sz) := by
  refine Met.ofW (cc := cX12_clauseHere) (maxL := 3) (ret := (some .boolean)) (by decide) rfl ?_
  intro p e s m args below meth c s₁ B hml hv
  obtain ⟨rfl, hsz, hP, hK, hN⟩ := hv
  have hx := B.exec
  have hb := B.bytes
  have hr := B.returns
  have hts : ∀ w ∈ wsA, w.before _ s = true := fun w h => atoms_spec (ws := .code yX12_clauseHere cX12_clauseHere 3 (some .boolean) :: wsA) B.pre w (List.mem_cons_of_mem _ h)
  have hown : s.vm.findClass RX12 = some m.cls := findClass_of_methodNamed B.named
  subst hsz
  have hLA : LA (dm L s.heap.size) L := ⟨hL, fun a h => Or.inl h⟩
  have hA : ∀ q : Nat, s.heap.size ≤ q → dm L s.heap.size q := fun q h => Or.inr h
  have hS : va_S (dm L s.heap.size) s.heap s.heap [] := va_S.rf
  have hB : TS D cA L T r ry [(12, 8), (12, 9), (12, 10), (12, 12), (12, 13), (12, 14), (12, 16), (62, 1000), (63, 1000), (64, 1000), (65, 1000), (67, 1000)] σ σ ρ s.heap := ⟨hP, hW, FR.rf⟩
  have hl := lv_entry ([.ref h0]) (n := 3) (Nat.le_of_ble_eq_true rfl)
  rw [lg_entry_eq]
  generalize (lg_sl ([.ref h0]) ++ List.replicate (3 - (lg_sl ([.ref h0])).length) Slot.unset).toArray = ls at hl ⊢
  have hl : lv_has ls 3 [(0, .ref h0)] := hl
  have w_1 : 0 ≤ (σ h0 8).toInt ∧ (σ h0 8).toInt ≤ 400 := by have z := hB.2.1 h0 mh0 8; rw [th0] at z; exact z
  have w_2 : 0 ≤ (σ h0 1).toInt ∧ (σ h0 1).toInt ≤ 400 := by have z := hB.2.1 h0 mh0 1; rw [th0] at z; exact z
  have w_3 : 0 ≤ (σ h0 12).toInt ∧ (σ h0 12).toInt ≤ 60 := by have z := hB.2.1 h0 mh0 12; rw [th0] at z; exact z
  have w_4 : 0 ≤ (σ bl tx.toNatClampNeg).toInt ∧ (σ bl tx.toNatClampNeg).toInt ≤ 400 := by have z := hB.2.1 bl mbl tx.toNatClampNeg; rw [tbl] at z; exact z
  have R0 : RLx σ σ h0 bg bl tx 0 0 := RLx.rf
  have w_5 : 0 ≤ (σ bc tx.toNatClampNeg).toInt ∧ (σ bc tx.toNatClampNeg).toInt ≤ 12 := by have z := hB.2.1 bc mbc tx.toNatClampNeg; rw [tbc] at z; exact z
  have w_6 : (-2147483648) ≤ (σ h0 14).toInt ∧ (σ h0 14).toInt ≤ 2147483647 := by have z := hB.2.1 h0 mh0 14; rw [th0] at z; exact z
  obtain ⟨w2a, w2b, w2c, w2d⟩ := w2
  refine lv_aload_n hx hb dX12_clauseHere_0 rfl (lv_at hl 0 rfl) ?_
  refine t_ci (va_runV (As := []) (rest := []) ⟨hx, hb, hml, hown, hts⟩ (cz_X12_see l D cA L T r hG hLA.1 σ ρ hB.2.1 _ h0 mh0 th0 bt hbt mbt tbt) (cV hts mv_X12_see mw_6_134 rfl rfl ⟨Nat.le_of_ble_eq_true rfl, Nat.le_of_ble_eq_true rfl⟩) (pV hB.1 hK hN mh0 th0 (show shp cA 12 _ _ _ = .inr (12, Fs12 _ _ _) from rfl) rfl) rfl rfl hl.1 rfl (lv_room (Nat.le_of_ble_eq_true rfl)) dX12_clauseHere_1 ⟨Nat.le_of_ble_eq_true rfl, Nat.le_of_ble_eq_true rfl⟩) hLA hA hB hS (by decide) (fun x_9 σ_7 ρ_8 H locs hB fσ_7 pσ_7 hS => ?_)
  obtain ⟨g_10, g_11, g_12, g_13⟩ := pσ_7
  have w_14 : 0 ≤ (σ_7 h0 8).toInt ∧ (σ_7 h0 8).toInt ≤ 400 := by have z := hB.2.1 h0 mh0 8; rw [th0] at z; exact z
  obtain ⟨lx_9, ux_9⟩ := g_10
  have k_15 : σ_7 h0 1 = (σ h0 1) := (FR.at fσ_7 th0 (by decide)).trans rfl
  have cq_16 : (σ_7 h0 1).toInt = (σ h0 1).toInt := congrArg Int32.toInt k_15
  have k_17 : σ_7 h0 12 = (σ h0 12) := (FR.at fσ_7 th0 (by decide)).trans rfl
  have cq_18 : (σ_7 h0 12).toInt = (σ h0 12).toInt := congrArg Int32.toInt k_17
  have k_19 : σ_7 bl tx.toNatClampNeg = (σ bl tx.toNatClampNeg) := (FR.at fσ_7 tbl (by simp)).trans rfl
  have cq_20 : (σ_7 bl tx.toNatClampNeg).toInt = (σ bl tx.toNatClampNeg).toInt := congrArg Int32.toInt k_19
  have k_21 : σ_7 bc tx.toNatClampNeg = (σ bc tx.toNatClampNeg) := (FR.at fσ_7 tbc (by simp)).trans rfl
  have cq_22 : (σ_7 bc tx.toNatClampNeg).toInt = (σ bc tx.toNatClampNeg).toInt := congrArg Int32.toInt k_21
  have k_23 : σ_7 h0 14 = (σ h0 14) := (FR.at fσ_7 th0 (by decide)).trans rfl
  have cq_24 : (σ_7 h0 14).toInt = (σ h0 14).toInt := congrArg Int32.toInt k_23
  refine lv_pop hx hb dX12_clauseHere_4 rfl ?_
  refine lv_aload_n hx hb dX12_clauseHere_5 rfl (lv_at hl 0 rfl) ?_
  refine t_gv hx hb hts hown hK hB mh0 th0 fi_12_8 rfl mw_5_224 dX12_clauseHere_6 ?_
  refine lv_istore_n (lv' := [(1, .int (σ_7 h0 8)), (0, .ref h0)]) hx hb dX12_clauseHere_9 rfl hl (by decide) rfl (fun ls hl => ?_)
  refine lv_aload_n hx hb dX12_clauseHere_10 rfl (lv_at hl 1 rfl) ?_
  have k_25 : σ_7 h0 11 = tx := (FR.at fσ_7 th0 (by decide)).trans k0
  refine t_gv hx hb hts hown hK hB mh0 th0 fi_12_11 k_25 mw_5_227 dX12_clauseHere_11 ?_
  refine lv_bipush (v := 6) hx hb dX12_clauseHere_14 (by decide) ?_
  refine lv_icmp_ne (tgt := 23) hx hb dX12_clauseHere_16 (by decide) (fun c_26 => ?_) (fun c_26 => ?_)
  · skip
    have uc_26 := i_ne (n := 6) (by decide) c_26
    refine lv_iconst (v := 0) hx hb dX12_clauseHere_23 (by decide) ?_
    refine lv_istore_n (lv' := [(2, .int 0), (1, .int (σ_7 h0 8)), (0, .ref h0)]) hx hb dX12_clauseHere_24 rfl hl (by decide) rfl (fun ls hl => ?_)
    refine lv_iload_n hx hb dX12_clauseHere_25 rfl (lv_at hl 0 rfl) ?_
    refine lv_if_eq (tgt := 39) hx hb dX12_clauseHere_26 (by decide) (fun _ => ?_) (fun c9 => absurd (by decide) c9)
    refine lv_aload_n hx hb dX12_clauseHere_39 rfl (lv_at hl 2 rfl) ?_
    refine lv_ldc2 (v := 6386539) hx hb hown (hts _ mw_6_156) dX12_clauseHere_40 ?_
    refine t_ci (va_runV (As := [.long 6386539]) (rest := []) ⟨hx, hb, hml, hown, hts⟩ (cz_X12_isWord l D cA L T r hG hLA.1 σ_7 ρ_8 hB.2.1 _ h0 mh0 th0 6386539 bt hbt mbt tbt) (cV hts mv_X12_isWord mw_6_143 rfl rfl ⟨Nat.le_of_ble_eq_true rfl, Nat.le_of_ble_eq_true rfl⟩) (pV hB.1 hK hN mh0 th0 (show shp cA 12 _ _ _ = .inr (12, Fs12 _ _ _) from rfl) rfl) rfl rfl hl.1 rfl (lv_room (Nat.le_of_ble_eq_true rfl)) dX12_clauseHere_43 ⟨Nat.le_of_ble_eq_true rfl, Nat.le_of_ble_eq_true rfl⟩) hLA hA hB hS (by decide) (fun x_29 σ_27 ρ_28 H locs hB fσ_27 pσ_27 hS => ?_)
    obtain ⟨g_30, g_31, g_32, g_33⟩ := pσ_27
    have w_34 : 0 ≤ (σ_27 h0 8).toInt ∧ (σ_27 h0 8).toInt ≤ 400 := by have z := hB.2.1 h0 mh0 8; rw [th0] at z; exact z
    obtain ⟨lx_29, ux_29⟩ := g_30
    have k_35 : σ_27 h0 1 = (σ h0 1) := (FR.at fσ_27 th0 (by decide)).trans k_15
    have cq_36 : (σ_27 h0 1).toInt = (σ h0 1).toInt := congrArg Int32.toInt k_35
    have k_37 : σ_27 h0 12 = (σ h0 12) := (FR.at fσ_27 th0 (by decide)).trans k_17
    have cq_38 : (σ_27 h0 12).toInt = (σ h0 12).toInt := congrArg Int32.toInt k_37
    have k_39 : σ_27 bl tx.toNatClampNeg = (σ bl tx.toNatClampNeg) := (FR.at fσ_27 tbl (by simp)).trans k_19
    have cq_40 : (σ_27 bl tx.toNatClampNeg).toInt = (σ bl tx.toNatClampNeg).toInt := congrArg Int32.toInt k_39
    have k_41 : σ_27 bc tx.toNatClampNeg = (σ bc tx.toNatClampNeg) := (FR.at fσ_27 tbc (by simp)).trans k_21
    have cq_42 : (σ_27 bc tx.toNatClampNeg).toInt = (σ bc tx.toNatClampNeg).toInt := congrArg Int32.toInt k_41
    have k_43 : σ_27 h0 14 = (σ h0 14) := (FR.at fσ_27 th0 (by decide)).trans k_23
    have cq_44 : (σ_27 h0 14).toInt = (σ h0 14).toInt := congrArg Int32.toInt k_43
    refine lv_if_ne (tgt := 56) hx hb dX12_clauseHere_46 (by decide) (fun c_45 => ?_) (fun c_45 => ?_)
    · skip
      have uc_45 := i_ne (n := 0) (by decide) c_45
      refine lv_aload_n hx hb dX12_clauseHere_56 rfl (lv_at hl 2 rfl) ?_
      refine t_gv hx hb hts hown hK hB mh0 th0 fi_12_14 k_43 mw_5_230 dX12_clauseHere_57 ?_
      refine lv_iload_n hx hb dX12_clauseHere_60 rfl (lv_at hl 0 rfl) ?_
      refine lv_if_eq (tgt := 69) hx hb dX12_clauseHere_61 (by decide) (fun _ => ?_) (fun c9 => absurd (by decide) c9)
      refine lv_bipush (v := 12) hx hb dX12_clauseHere_69 (by decide) ?_
      refine lv_icmp_ne (tgt := 81) hx hb dX12_clauseHere_71 (by decide) (fun c_46 => ?_) (fun c_46 => ?_)
      · skip
        have uc_46 := i_ne (n := 12) (by decide) c_46
        refine lv_aload_n hx hb dX12_clauseHere_81 rfl (lv_at hl 2 rfl) ?_
        refine lv_dup hx hb dX12_clauseHere_82 rfl ?_
        refine t_gv hx hb hts hown hK hB mh0 th0 fi_12_14 k_43 mw_5_230 dX12_clauseHere_83 ?_
        refine lv_iconst (v := 1) hx hb dX12_clauseHere_86 (by decide) ?_
        refine lv_iadd hx hb dX12_clauseHere_87 ?_
        refine lv_topi (fun x_47 ex_47 => ?_)
        have vx_47 := b_add (rfl : (σ h0 14).toInt = _) (by decide : (1 : Int32).toInt = 1) ex_47 (by omega) (by omega)
        refine t_pi hx hb hts hown hK hLA hB hS mh0 th0 fi_12_14 rfl rfl rfl (i_lo _) (i_hi _) (Or.inl (by decide)) mw_5_230 dX12_clauseHere_88 (fun H locs σ_48 eσ_48 hB hS => ?_)
        have k_49 : σ_48 h0 14 = x_47 := by rw [eσ_48]; exact up2_same _ _ _ _
        refine lv_iload_n hx hb dX12_clauseHere_91 rfl (lv_at hl 0 rfl) ?_
        refine lv_if_eq (tgt := 103) hx hb dX12_clauseHere_92 (by decide) (fun _ => ?_) (fun c9 => absurd (by decide) c9)
        refine lv_aload_n hx hb dX12_clauseHere_103 rfl (lv_at hl 2 rfl) ?_
        have k_50 : σ_48 h0 8 = (σ_27 h0 8) := by rw [eσ_48, up2_nej _ _ (by decide)]
        have cq_51 : (σ_48 h0 8).toInt = (σ_27 h0 8).toInt := congrArg Int32.toInt k_50
        have k_52 : σ_48 h0 1 = (σ h0 1) := by rw [eσ_48, up2_nej _ _ (by decide)]; exact k_35
        have cq_53 : (σ_48 h0 1).toInt = (σ h0 1).toInt := congrArg Int32.toInt k_52
        have k_54 : σ_48 h0 12 = (σ h0 12) := by rw [eσ_48, up2_nej _ _ (by decide)]; exact k_37
        have cq_55 : (σ_48 h0 12).toInt = (σ h0 12).toInt := congrArg Int32.toInt k_54
        have k_56 : σ_48 bl tx.toNatClampNeg = (σ bl tx.toNatClampNeg) := by rw [eσ_48, up2_nea _ _ (tg_ne tbl th0 (by decide))]; exact k_39
        have cq_57 : (σ_48 bl tx.toNatClampNeg).toInt = (σ bl tx.toNatClampNeg).toInt := congrArg Int32.toInt k_56
        have k_58 : σ_48 bc tx.toNatClampNeg = (σ bc tx.toNatClampNeg) := by rw [eσ_48, up2_nea _ _ (tg_ne tbc th0 (by decide))]; exact k_41
        have cq_59 : (σ_48 bc tx.toNatClampNeg).toInt = (σ bc tx.toNatClampNeg).toInt := congrArg Int32.toInt k_58
        have cq_60 : (σ_48 h0 14).toInt = x_47.toInt := congrArg Int32.toInt k_49
        have k_61 : σ_27 h0 11 = tx := (FR.at fσ_27 th0 (by decide)).trans k_25
        have k_62 : σ_48 h0 11 = tx := by rw [eσ_48, up2_nej _ _ (by decide)]; exact k_61
        refine t_ci (va_runV (As := []) (rest := []) ⟨hx, hb, hml, hown, hts⟩ (cz_X12_isAskHere l D cA L T r hG hLA.1 σ_48 ρ_28 hB.2.1 _ h0 mh0 th0 bt hbt mbt tbt bg hbg mbg tbg bl hbl mbl tbl bk hbk mbk tbk bc hbc mbc tbc tx k_62 (by first | omega | decide) (by first | omega | decide) (by omega) (by first | omega | decide)) (cV hts mv_X12_isAskHere mw_6_212 rfl rfl ⟨Nat.le_of_ble_eq_true rfl, Nat.le_of_ble_eq_true rfl⟩) (pV hB.1 hK hN mh0 th0 (show shp cA 12 _ _ _ = .inr (12, Fs12 _ _ _) from rfl) rfl) rfl rfl hl.1 rfl (lv_room (Nat.le_of_ble_eq_true rfl)) dX12_clauseHere_104 ⟨Nat.le_of_ble_eq_true rfl, Nat.le_of_ble_eq_true rfl⟩) hLA hA hB hS (by decide) (fun x_65 σ_63 ρ_64 H locs hB fσ_63 pσ_63 hS => ?_)
        obtain ⟨g_66, g_67, g_68, g_69, g_70, g_71⟩ := pσ_63
        have w_72 : 0 ≤ (σ_63 bl tx.toNatClampNeg).toInt ∧ (σ_63 bl tx.toNatClampNeg).toInt ≤ 400 := by have z := hB.2.1 bl mbl tx.toNatClampNeg; rw [tbl] at z; exact z
        have w_73 : 0 ≤ (σ_63 h0 8).toInt ∧ (σ_63 h0 8).toInt ≤ 400 := by have z := hB.2.1 h0 mh0 8; rw [th0] at z; exact z
        have w_74 : 0 ≤ (σ_63 h0 12).toInt ∧ (σ_63 h0 12).toInt ≤ 60 := by have z := hB.2.1 h0 mh0 12; rw [th0] at z; exact z
        have k_75 := FR.row fσ_7 tbg (fun j => by simp)
        have k_76 := FR.row fσ_27 tbg (fun j => by simp)
        have k_77a := congrFun eσ_48 bg
        rw [up2_row _ _ (tg_ne tbg th0 (by decide))] at k_77a
        have k_78 := FR.row fσ_7 tbl (fun j => by simp)
        have k_79 := FR.row fσ_27 tbl (fun j => by simp)
        have k_80a := congrFun eσ_48 bl
        rw [up2_row _ _ (tg_ne tbl th0 (by decide))] at k_80a
        have ex_81 : EX (σ bg) (σ bl) (σ_48 bg) (σ_48 bl) tx := by rw [((k_77a).trans ((k_76).trans (k_75))), ((k_80a).trans ((k_79).trans (k_78)))]; exact EX.rf
        have ex_82 := EX.tr ex_81 g_68
        have w_83 : 0 ≤ (σ_63 bc tx.toNatClampNeg).toInt ∧ (σ_63 bc tx.toNatClampNeg).toInt ≤ 12 := by have z := hB.2.1 bc mbc tx.toNatClampNeg; rw [tbc] at z; exact z
        obtain ⟨lx_65, ux_65⟩ := g_66
        have k_84 : σ_63 h0 1 = (σ h0 1) := (FR.at fσ_63 th0 (by decide)).trans k_52
        have cq_85 : (σ_63 h0 1).toInt = (σ h0 1).toInt := congrArg Int32.toInt k_84
        have k_86 : σ_63 h0 14 = x_47 := (FR.at fσ_63 th0 (by decide)).trans k_49
        have cq_87 : (σ_63 h0 14).toInt = x_47.toInt := congrArg Int32.toInt k_86
        have k_88 := FR.row fσ_7 tbk (fun j => by simp)
        have k_89 := FR.row fσ_27 tbk (fun j => by simp)
        have k_90a := congrFun eσ_48 bk
        rw [up2_row _ _ (tg_ne tbk th0 (by decide))] at k_90a
        have k_91 := FR.row fσ_7 tbc (fun j => by simp)
        have k_92 := FR.row fσ_27 tbc (fun j => by simp)
        have k_93a := congrFun eσ_48 bc
        rw [up2_row _ _ (tg_ne tbc th0 (by decide))] at k_93a
        have k_94 := FR.row fσ_7 tbg (fun j => by simp)
        have k_95 := FR.row fσ_27 tbg (fun j => by simp)
        have k_96a := congrFun eσ_48 bg
        rw [up2_row _ _ (tg_ne tbg th0 (by decide))] at k_96a
        have k_97 := FR.row fσ_7 tbk (fun j => by simp)
        have k_98 := FR.row fσ_27 tbk (fun j => by simp)
        have k_99a := congrFun eσ_48 bk
        rw [up2_row _ _ (tg_ne tbk th0 (by decide))] at k_99a
        have k_100 := FR.row fσ_7 tbl (fun j => by simp)
        have k_101 := FR.row fσ_27 tbl (fun j => by simp)
        have k_102a := congrFun eσ_48 bl
        rw [up2_row _ _ (tg_ne tbl th0 (by decide))] at k_102a
        have k_103 := FR.row fσ_7 tbc (fun j => by simp)
        have k_104 := FR.row fσ_27 tbc (fun j => by simp)
        have k_105a := congrFun eσ_48 bc
        rw [up2_row _ _ (tg_ne tbc th0 (by decide))] at k_105a
        exact W.zret (v := x_65) hx hb hr (n_bool (by omega) (by omega)) (fun t ht hW => ⟨⟨x_65, (σ_63, ρ_64), rfl, ⟨hB.2.1, hB.2.2, ⟨(show 0 ≤ (x_65 : Int32).toInt ∧ (x_65 : Int32).toInt ≤ 1 from ⟨by omega, by omega⟩), (show (σ h0 8).toInt ≤ (σ_63 h0 8).toInt from (by omega)), (show EX (σ bg) (σ bl) (σ_63 bg) (σ_63 bl) tx from ex_82), (show KX (σ bk) (σ_63 bk) (σ bc) (σ_63 bc) tx from (by have z := g_69; rw [((k_90a).trans ((k_89).trans (k_88))), ((k_93a).trans ((k_92).trans (k_91)))] at z; exact z)), (show WP (σ bg) (σ bk) (σ bl) (σ bc tx.toNatClampNeg).toInt.toNat tx → WP (σ_63 bg) (σ_63 bk) (σ_63 bl) (σ_63 bc tx.toNatClampNeg).toInt.toNat tx from (fun hw => g_70 (by rw [((k_96a).trans ((k_95).trans (k_94))), ((k_99a).trans ((k_98).trans (k_97))), ((k_102a).trans ((k_101).trans (k_100))), ((k_105a).trans ((k_104).trans (k_103)))]; exact hw))), (show (x_65 : Int32).toInt = 1 → (σ_63 bl tx.toNatClampNeg).toInt ≤ (σ_63 h0 8).toInt ∧ (σ_63 bc tx.toNatClampNeg).toInt ≤ (σ_63 h0 14).toInt ∧ 0 ≤ (σ_63 h0 14).toInt ∧ (σ_63 h0 14).toInt ≤ 12 from (fun h => by have z := g_71 h; rw [k_86]; omega))⟩⟩, (show TP D cA L T r σ_63 ρ_64 t.heap from by rw [ht]; exact hB.1)⟩, hS.F ht⟩) hS.2.2 dX12_clauseHere_107
      · skip
        have uc_46 := i_eq (n := 12) (by decide) c_46
        refine lv_aload_n hx hb dX12_clauseHere_74 rfl (lv_at hl 2 rfl) ?_
        refine lv_iconst (v := 4) hx hb dX12_clauseHere_75 (by decide) ?_
        refine lv_iload_n hx hb dX12_clauseHere_76 rfl (lv_at hl 1 rfl) ?_
        refine t_ci (va_runV (As := [.int 4, .int (σ_7 h0 8)]) (rest := []) ⟨hx, hb, hml, hown, hts⟩ (cy_X12_fails l D cA L T r hG hLA.1 σ_27 ρ_28 hB.2.1 _ h0 mh0 th0 4 ((σ_7 h0 8)) (by first | omega | decide) (by first | omega | decide) (by first | omega | decide) (by first | omega | decide)) (cV hts mv_X12_fails mw_6_157 rfl rfl ⟨Nat.le_of_ble_eq_true rfl, Nat.le_of_ble_eq_true rfl⟩) (pV hB.1 hK hN mh0 th0 (show shp cA 12 _ _ _ = .inr (12, Fs12 _ _ _) from rfl) rfl) rfl rfl hl.1 rfl (lv_room (Nat.le_of_ble_eq_true rfl)) dX12_clauseHere_77 ⟨Nat.le_of_ble_eq_true rfl, Nat.le_of_ble_eq_true rfl⟩) hLA hA hB hS (by decide) (fun x_108 σ_106 ρ_107 H locs hB fσ_106 pσ_106 hS => ?_)
        subst pσ_106
        have k_109 : σ_106 h0 8 = (σ_27 h0 8) := (FR.at fσ_106 th0 (by decide)).trans rfl
        have cq_110 : (σ_106 h0 8).toInt = (σ_27 h0 8).toInt := congrArg Int32.toInt k_109
        have k_111 : σ_106 h0 1 = (σ h0 1) := (FR.at fσ_106 th0 (by decide)).trans k_35
        have cq_112 : (σ_106 h0 1).toInt = (σ h0 1).toInt := congrArg Int32.toInt k_111
        have k_113 : σ_106 h0 12 = (σ h0 12) := (FR.at fσ_106 th0 (by decide)).trans k_37
        have cq_114 : (σ_106 h0 12).toInt = (σ h0 12).toInt := congrArg Int32.toInt k_113
        have k_115 : σ_106 bl tx.toNatClampNeg = (σ bl tx.toNatClampNeg) := (FR.at fσ_106 tbl (by simp)).trans k_39
        have cq_116 : (σ_106 bl tx.toNatClampNeg).toInt = (σ bl tx.toNatClampNeg).toInt := congrArg Int32.toInt k_115
        have k_117 : σ_106 bc tx.toNatClampNeg = (σ bc tx.toNatClampNeg) := (FR.at fσ_106 tbc (by simp)).trans k_41
        have cq_118 : (σ_106 bc tx.toNatClampNeg).toInt = (σ bc tx.toNatClampNeg).toInt := congrArg Int32.toInt k_117
        have k_119 : σ_106 h0 14 = (σ h0 14) := (FR.at fσ_106 th0 (by decide)).trans k_43
        have cq_120 : (σ_106 h0 14).toInt = (σ h0 14).toInt := congrArg Int32.toInt k_119
        have k_121 := FR.row fσ_7 tbg (fun j => by simp)
        have k_122 := FR.row fσ_27 tbg (fun j => by simp)
        have k_123 := FR.row fσ_106 tbg (fun j => by simp)
        have k_124 := FR.row fσ_7 tbl (fun j => by simp)
        have k_125 := FR.row fσ_27 tbl (fun j => by simp)
        have k_126 := FR.row fσ_106 tbl (fun j => by simp)
        have ex_127 : EX (σ bg) (σ bl) (σ_106 bg) (σ_106 bl) tx := by rw [((k_123).trans ((k_122).trans (k_121))), ((k_126).trans ((k_125).trans (k_124)))]; exact EX.rf
        have k_128 := FR.row fσ_7 tbk (fun j => by simp)
        have k_129 := FR.row fσ_27 tbk (fun j => by simp)
        have k_130 := FR.row fσ_106 tbk (fun j => by simp)
        have k_131 := FR.row fσ_7 tbc (fun j => by simp)
        have k_132 := FR.row fσ_27 tbc (fun j => by simp)
        have k_133 := FR.row fσ_106 tbc (fun j => by simp)
        have k_134 := FR.row fσ_7 tbg (fun j => by simp)
        have k_135 := FR.row fσ_27 tbg (fun j => by simp)
        have k_136 := FR.row fσ_106 tbg (fun j => by simp)
        have k_137 := FR.row fσ_7 tbk (fun j => by simp)
        have k_138 := FR.row fσ_27 tbk (fun j => by simp)
        have k_139 := FR.row fσ_106 tbk (fun j => by simp)
        have k_140 := FR.row fσ_7 tbl (fun j => by simp)
        have k_141 := FR.row fσ_27 tbl (fun j => by simp)
        have k_142 := FR.row fσ_106 tbl (fun j => by simp)
        have k_143 := FR.row fσ_7 tbc (fun j => by simp)
        have k_144 := FR.row fσ_27 tbc (fun j => by simp)
        have k_145 := FR.row fσ_106 tbc (fun j => by simp)
        exact W.zret (v := 0) hx hb hr rfl (fun t ht hW => ⟨⟨0, (σ_106, ρ_107), rfl, ⟨hB.2.1, hB.2.2, ⟨(show 0 ≤ (0 : Int32).toInt ∧ (0 : Int32).toInt ≤ 1 from ⟨by decide, by decide⟩), (show (σ h0 8).toInt ≤ (σ_106 h0 8).toInt from (by rw [k_109]; omega)), (show EX (σ bg) (σ bl) (σ_106 bg) (σ_106 bl) tx from ex_127), (show KX (σ bk) (σ_106 bk) (σ bc) (σ_106 bc) tx from (by rw [((k_130).trans ((k_129).trans (k_128))), ((k_133).trans ((k_132).trans (k_131)))]; exact KX.rf)), (show WP (σ bg) (σ bk) (σ bl) (σ bc tx.toNatClampNeg).toInt.toNat tx → WP (σ_106 bg) (σ_106 bk) (σ_106 bl) (σ_106 bc tx.toNatClampNeg).toInt.toNat tx from (fun hw => by rw [((k_136).trans ((k_135).trans (k_134))), ((k_139).trans ((k_138).trans (k_137))), ((k_142).trans ((k_141).trans (k_140))), ((k_145).trans ((k_144).trans (k_143)))]; exact hw)), (show (0 : Int32).toInt = 1 → (σ_106 bl tx.toNatClampNeg).toInt ≤ (σ_106 h0 8).toInt ∧ (σ_106 bc tx.toNatClampNeg).toInt ≤ (σ_106 h0 14).toInt ∧ 0 ≤ (σ_106 h0 14).toInt ∧ (σ_106 h0 14).toInt ≤ 12 from (fun h => absurd h (by decide)))⟩⟩, (show TP D cA L T r σ_106 ρ_107 t.heap from by rw [ht]; exact hB.1)⟩, hS.F ht⟩) hS.2.2 dX12_clauseHere_80
    · skip
      have uc_45 := i_eq (n := 0) (by decide) c_45
      refine lv_aload_n hx hb dX12_clauseHere_49 rfl (lv_at hl 2 rfl) ?_
      refine lv_iconst (v := 0) hx hb dX12_clauseHere_50 (by decide) ?_
      refine lv_iload_n hx hb dX12_clauseHere_51 rfl (lv_at hl 1 rfl) ?_
      refine t_ci (va_runV (As := [.int 0, .int (σ_7 h0 8)]) (rest := []) ⟨hx, hb, hml, hown, hts⟩ (cy_X12_fails l D cA L T r hG hLA.1 σ_27 ρ_28 hB.2.1 _ h0 mh0 th0 0 ((σ_7 h0 8)) (by first | omega | decide) (by first | omega | decide) (by first | omega | decide) (by first | omega | decide)) (cV hts mv_X12_fails mw_6_157 rfl rfl ⟨Nat.le_of_ble_eq_true rfl, Nat.le_of_ble_eq_true rfl⟩) (pV hB.1 hK hN mh0 th0 (show shp cA 12 _ _ _ = .inr (12, Fs12 _ _ _) from rfl) rfl) rfl rfl hl.1 rfl (lv_room (Nat.le_of_ble_eq_true rfl)) dX12_clauseHere_52 ⟨Nat.le_of_ble_eq_true rfl, Nat.le_of_ble_eq_true rfl⟩) hLA hA hB hS (by decide) (fun x_148 σ_146 ρ_147 H locs hB fσ_146 pσ_146 hS => ?_)
      subst pσ_146
      have k_149 : σ_146 h0 8 = (σ_27 h0 8) := (FR.at fσ_146 th0 (by decide)).trans rfl
      have cq_150 : (σ_146 h0 8).toInt = (σ_27 h0 8).toInt := congrArg Int32.toInt k_149
      have k_151 : σ_146 h0 1 = (σ h0 1) := (FR.at fσ_146 th0 (by decide)).trans k_35
      have cq_152 : (σ_146 h0 1).toInt = (σ h0 1).toInt := congrArg Int32.toInt k_151
      have k_153 : σ_146 h0 12 = (σ h0 12) := (FR.at fσ_146 th0 (by decide)).trans k_37
      have cq_154 : (σ_146 h0 12).toInt = (σ h0 12).toInt := congrArg Int32.toInt k_153
      have k_155 : σ_146 bl tx.toNatClampNeg = (σ bl tx.toNatClampNeg) := (FR.at fσ_146 tbl (by simp)).trans k_39
      have cq_156 : (σ_146 bl tx.toNatClampNeg).toInt = (σ bl tx.toNatClampNeg).toInt := congrArg Int32.toInt k_155
      have k_157 : σ_146 bc tx.toNatClampNeg = (σ bc tx.toNatClampNeg) := (FR.at fσ_146 tbc (by simp)).trans k_41
      have cq_158 : (σ_146 bc tx.toNatClampNeg).toInt = (σ bc tx.toNatClampNeg).toInt := congrArg Int32.toInt k_157
      have k_159 : σ_146 h0 14 = (σ h0 14) := (FR.at fσ_146 th0 (by decide)).trans k_43
      have cq_160 : (σ_146 h0 14).toInt = (σ h0 14).toInt := congrArg Int32.toInt k_159
      have k_161 := FR.row fσ_7 tbg (fun j => by simp)
      have k_162 := FR.row fσ_27 tbg (fun j => by simp)
      have k_163 := FR.row fσ_146 tbg (fun j => by simp)
      have k_164 := FR.row fσ_7 tbl (fun j => by simp)
      have k_165 := FR.row fσ_27 tbl (fun j => by simp)
      have k_166 := FR.row fσ_146 tbl (fun j => by simp)
      have ex_167 : EX (σ bg) (σ bl) (σ_146 bg) (σ_146 bl) tx := by rw [((k_163).trans ((k_162).trans (k_161))), ((k_166).trans ((k_165).trans (k_164)))]; exact EX.rf
      have k_168 := FR.row fσ_7 tbk (fun j => by simp)
      have k_169 := FR.row fσ_27 tbk (fun j => by simp)
      have k_170 := FR.row fσ_146 tbk (fun j => by simp)
      have k_171 := FR.row fσ_7 tbc (fun j => by simp)
      have k_172 := FR.row fσ_27 tbc (fun j => by simp)
      have k_173 := FR.row fσ_146 tbc (fun j => by simp)
      have k_174 := FR.row fσ_7 tbg (fun j => by simp)
      have k_175 := FR.row fσ_27 tbg (fun j => by simp)
      have k_176 := FR.row fσ_146 tbg (fun j => by simp)
      have k_177 := FR.row fσ_7 tbk (fun j => by simp)
      have k_178 := FR.row fσ_27 tbk (fun j => by simp)
      have k_179 := FR.row fσ_146 tbk (fun j => by simp)
      have k_180 := FR.row fσ_7 tbl (fun j => by simp)
      have k_181 := FR.row fσ_27 tbl (fun j => by simp)
      have k_182 := FR.row fσ_146 tbl (fun j => by simp)
      have k_183 := FR.row fσ_7 tbc (fun j => by simp)
      have k_184 := FR.row fσ_27 tbc (fun j => by simp)
      have k_185 := FR.row fσ_146 tbc (fun j => by simp)
      exact W.zret (v := 0) hx hb hr rfl (fun t ht hW => ⟨⟨0, (σ_146, ρ_147), rfl, ⟨hB.2.1, hB.2.2, ⟨(show 0 ≤ (0 : Int32).toInt ∧ (0 : Int32).toInt ≤ 1 from ⟨by decide, by decide⟩), (show (σ h0 8).toInt ≤ (σ_146 h0 8).toInt from (by rw [k_149]; omega)), (show EX (σ bg) (σ bl) (σ_146 bg) (σ_146 bl) tx from ex_167), (show KX (σ bk) (σ_146 bk) (σ bc) (σ_146 bc) tx from (by rw [((k_170).trans ((k_169).trans (k_168))), ((k_173).trans ((k_172).trans (k_171)))]; exact KX.rf)), (show WP (σ bg) (σ bk) (σ bl) (σ bc tx.toNatClampNeg).toInt.toNat tx → WP (σ_146 bg) (σ_146 bk) (σ_146 bl) (σ_146 bc tx.toNatClampNeg).toInt.toNat tx from (fun hw => by rw [((k_176).trans ((k_175).trans (k_174))), ((k_179).trans ((k_178).trans (k_177))), ((k_182).trans ((k_181).trans (k_180))), ((k_185).trans ((k_184).trans (k_183)))]; exact hw)), (show (0 : Int32).toInt = 1 → (σ_146 bl tx.toNatClampNeg).toInt ≤ (σ_146 h0 8).toInt ∧ (σ_146 bc tx.toNatClampNeg).toInt ≤ (σ_146 h0 14).toInt ∧ 0 ≤ (σ_146 h0 14).toInt ∧ (σ_146 h0 14).toInt ≤ 12 from (fun h => absurd h (by decide)))⟩⟩, (show TP D cA L T r σ_146 ρ_147 t.heap from by rw [ht]; exact hB.1)⟩, hS.F ht⟩) hS.2.2 dX12_clauseHere_55
  · skip
    have uc_26 := i_eq (n := 6) (by decide) c_26
    exfalso; omega
