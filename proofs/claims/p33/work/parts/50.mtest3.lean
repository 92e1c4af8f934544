theorem mw_7_20 : (.instanceMethod yX12_fact : Cond) ∈ wsA := wsA_t (List.mem_append_right _ (List.mem_append_right _ (List.mem_append_right _ (List.mem_append_right _ (List.mem_append_right _ (List.mem_append_right _ (List.mem_append_left _ (List.mem_of_getElem? (l := tables_1_7) (i := 20) rfl)))))))) rfl
theorem mp_5_7 : (.selects RX12 yX12_fact yX12_fact : Cond) ∈ wsA := wsA_p (q := (yX12_fact, 44)) (List.mem_append_right _ (List.mem_append_right _ (List.mem_append_right _ (List.mem_append_right _ (List.mem_append_left _ (List.mem_of_getElem? (l := lw_privs_5) (i := 7) rfl))))))
theorem mw_7_21 : (.code yX12_fact cX12_fact 3 (some .boolean) : Cond) ∈ wsA := wsA_t (List.mem_append_right _ (List.mem_append_right _ (List.mem_append_right _ (List.mem_append_right _ (List.mem_append_right _ (List.mem_append_right _ (List.mem_append_left _ (List.mem_of_getElem? (l := tables_1_7) (i := 21) rfl)))))))) rfl
theorem mw_7_18 : (.methodLink RX12 208 yX12_fact : Cond) ∈ wsA := wsA_t (List.mem_append_right _ (List.mem_append_right _ (List.mem_append_right _ (List.mem_append_right _ (List.mem_append_right _ (List.mem_append_right _ (List.mem_append_left _ (List.mem_of_getElem? (l := tables_1_7) (i := 18) rfl)))))))) rfl
theorem mw_7_33 : (.instanceMethod yX12_closes : Cond) ∈ wsA := wsA_t (List.mem_append_right _ (List.mem_append_right _ (List.mem_append_right _ (List.mem_append_right _ (List.mem_append_right _ (List.mem_append_right _ (List.mem_append_left _ (List.mem_of_getElem? (l := tables_1_7) (i := 33) rfl)))))))) rfl
theorem mp_5_10 : (.selects RX12 yX12_closes yX12_closes : Cond) ∈ wsA := wsA_p (q := (yX12_closes, 44)) (List.mem_append_right _ (List.mem_append_right _ (List.mem_append_right _ (List.mem_append_right _ (List.mem_append_left _ (List.mem_of_getElem? (l := lw_privs_5) (i := 10) rfl))))))
theorem mw_7_34 : (.code yX12_closes cX12_closes 1 none : Cond) ∈ wsA := wsA_t (List.mem_append_right _ (List.mem_append_right _ (List.mem_append_right _ (List.mem_append_right _ (List.mem_append_right _ (List.mem_append_right _ (List.mem_append_left _ (List.mem_of_getElem? (l := tables_1_7) (i := 34) rfl)))))))) rfl
theorem mw_7_31 : (.methodLink RX12 211 yX12_closes : Cond) ∈ wsA := wsA_t (List.mem_append_right _ (List.mem_append_right _ (List.mem_append_right _ (List.mem_append_right _ (List.mem_append_right _ (List.mem_append_right _ (List.mem_append_left _ (List.mem_of_getElem? (l := tables_1_7) (i := 31) rfl)))))))) rfl
theorem mw_7_46 : (.constantLong RX12 214 6385252 : Cond) ∈ wsA := wsA_t (List.mem_append_right _ (List.mem_append_right _ (List.mem_append_right _ (List.mem_append_right _ (List.mem_append_right _ (List.mem_append_right _ (List.mem_append_left _ (List.mem_of_getElem? (l := tables_1_7) (i := 46) rfl)))))))) rfl
theorem mw_7_47 : (.constantLong RX12 216 28530 : Cond) ∈ wsA := wsA_t (List.mem_append_right _ (List.mem_append_right _ (List.mem_append_right _ (List.mem_append_right _ (List.mem_append_right _ (List.mem_append_right _ (List.mem_append_left _ (List.mem_of_getElem? (l := tables_1_7) (i := 47) rfl)))))))) rfl
theorem dX12_tested_0 : decode cX12_tested 0 = .ok (.aload_n 0, 1) := by decide +kernel
theorem dX12_tested_1 : decode cX12_tested 1 = .ok (.iconst 0, 1) := by decide +kernel
theorem dX12_tested_2 : decode cX12_tested 2 = .ok (.putfield 163, 3) := by decide +kernel
theorem dX12_tested_5 : decode cX12_tested 5 = .ok (.aload_n 0, 1) := by decide +kernel
theorem dX12_tested_6 : decode cX12_tested 6 = .ok (.iconst 0, 1) := by decide +kernel
theorem dX12_tested_7 : decode cX12_tested 7 = .ok (.putfield 160, 3) := by decide +kernel
theorem dX12_tested_10 : decode cX12_tested 10 = .ok (.iconst 1, 1) := by decide +kernel
theorem dX12_tested_11 : decode cX12_tested 11 = .ok (.istore_n 1, 1) := by decide +kernel
theorem dX12_tested_12 : decode cX12_tested 12 = .ok (.iload_n 1, 1) := by decide +kernel
theorem dX12_tested_13 : decode cX12_tested 13 = .ok (.ifCond .eq 99, 3) := by decide +kernel
theorem dX12_tested_16 : decode cX12_tested 16 = .ok (.aload_n 0, 1) := by decide +kernel
theorem dX12_tested_17 : decode cX12_tested 17 = .ok (.invokevirtual 208, 3) := by decide +kernel
theorem dX12_tested_20 : decode cX12_tested 20 = .ok (.ifCond .ne 5, 3) := by decide +kernel
theorem dX12_tested_25 : decode cX12_tested 25 = .ok (.aload_n 0, 1) := by decide +kernel
theorem dX12_tested_26 : decode cX12_tested 26 = .ok (.invokevirtual 211, 3) := by decide +kernel
theorem dX12_tested_29 : decode cX12_tested 29 = .ok (.aload_n 0, 1) := by decide +kernel
theorem dX12_tested_30 : decode cX12_tested 30 = .ok (.ldc2_w 214, 3) := by decide +kernel
theorem dX12_tested_33 : decode cX12_tested 33 = .ok (.invokevirtual 113, 3) := by decide +kernel
theorem dX12_tested_36 : decode cX12_tested 36 = .ok (.ifCond .ne 13, 3) := by decide +kernel
theorem dX12_tested_49 : decode cX12_tested 49 = .ok (.iconst 1, 1) := by decide +kernel
theorem dX12_tested_50 : decode cX12_tested 50 = .ok (.goto 4, 3) := by decide +kernel
theorem dX12_tested_54 : decode cX12_tested 54 = .ok (.istore_n 1, 1) := by decide +kernel
theorem dX12_tested_55 : decode cX12_tested 55 = .ok (.iload_n 1, 1) := by decide +kernel
theorem dX12_tested_56 : decode cX12_tested 56 = .ok (.ifCond .eq (-44), 3) := by decide +kernel
theorem dX12_tested_59 : decode cX12_tested 59 = .ok (.aload_n 0, 1) := by decide +kernel
theorem dX12_tested_60 : decode cX12_tested 60 = .ok (.ldc2_w 214, 3) := by decide +kernel
theorem dX12_tested_63 : decode cX12_tested 63 = .ok (.invokevirtual 113, 3) := by decide +kernel
theorem dX12_tested_66 : decode cX12_tested 66 = .ok (.ifCond .eq 8, 3) := by decide +kernel
theorem dX12_tested_74 : decode cX12_tested 74 = .ok (.bipush 13, 2) := by decide +kernel
theorem dX12_tested_76 : decode cX12_tested 76 = .ok (.istore_n 2, 1) := by decide +kernel
theorem dX12_tested_77 : decode cX12_tested 77 = .ok (.aload_n 0, 1) := by decide +kernel
theorem dX12_tested_78 : decode cX12_tested 78 = .ok (.invokevirtual 117, 3) := by decide +kernel
theorem dX12_tested_81 : decode cX12_tested 81 = .ok (.aload_n 0, 1) := by decide +kernel
theorem dX12_tested_82 : decode cX12_tested 82 = .ok (.iload_n 2, 1) := by decide +kernel
theorem dX12_tested_83 : decode cX12_tested 83 = .ok (.invokestatic 166, 3) := by decide +kernel
theorem dX12_tested_86 : decode cX12_tested 86 = .ok (.invokevirtual 202, 3) := by decide +kernel
theorem dX12_tested_89 : decode cX12_tested 89 = .ok (.aload_n 0, 1) := by decide +kernel
theorem dX12_tested_90 : decode cX12_tested 90 = .ok (.getfield 29, 3) := by decide +kernel
theorem dX12_tested_93 : decode cX12_tested 93 = .ok (.aload_n 0, 1) := by decide +kernel
theorem dX12_tested_94 : decode cX12_tested 94 = .ok (.getfield 163, 3) := by decide +kernel
theorem dX12_tested_97 : decode cX12_tested 97 = .ok (.iload_n 2, 1) := by decide +kernel
theorem dX12_tested_98 : decode cX12_tested 98 = .ok (.iastore, 1) := by decide +kernel
theorem dX12_tested_99 : decode cX12_tested 99 = .ok (.aload_n 0, 1) := by decide +kernel
theorem dX12_tested_100 : decode cX12_tested 100 = .ok (.dup, 1) := by decide +kernel
theorem dX12_tested_101 : decode cX12_tested 101 = .ok (.getfield 163, 3) := by decide +kernel
theorem dX12_tested_104 : decode cX12_tested 104 = .ok (.iconst 1, 1) := by decide +kernel
theorem dX12_tested_105 : decode cX12_tested 105 = .ok (.iadd, 1) := by decide +kernel
theorem dX12_tested_106 : decode cX12_tested 106 = .ok (.putfield 163, 3) := by decide +kernel
theorem dX12_tested_109 : decode cX12_tested 109 = .ok (.goto (-97), 3) := by decide +kernel
theorem dX12_tested_69 : decode cX12_tested 69 = .ok (.bipush 12, 2) := by decide +kernel
theorem dX12_tested_71 : decode cX12_tested 71 = .ok (.goto 5, 3) := by decide +kernel
theorem dX12_tested_39 : decode cX12_tested 39 = .ok (.aload_n 0, 1) := by decide +kernel
theorem dX12_tested_40 : decode cX12_tested 40 = .ok (.ldc2_w 216, 3) := by decide +kernel
theorem dX12_tested_43 : decode cX12_tested 43 = .ok (.invokevirtual 113, 3) := by decide +kernel
theorem dX12_tested_46 : decode cX12_tested 46 = .ok (.ifCond .eq 7, 3) := by decide +kernel
theorem dX12_tested_53 : decode cX12_tested 53 = .ok (.iconst 0, 1) := by decide +kernel
theorem dX12_tested_23 : decode cX12_tested 23 = .ok (.iconst 0, 1) := by decide +kernel
theorem dX12_tested_24 : decode cX12_tested 24 = .ok (.ireturn, 1) := by decide +kernel
theorem dX12_tested_112 : decode cX12_tested 112 = .ok (.aload_n 0, 1) := by decide +kernel
theorem dX12_tested_113 : decode cX12_tested 113 = .ok (.invokevirtual 205, 3) := by decide +kernel
theorem dX12_tested_116 : decode cX12_tested 116 = .ok (.ifCond .eq 18, 3) := by decide +kernel
theorem dX12_tested_134 : decode cX12_tested 134 = .ok (.aload_n 0, 1) := by decide +kernel
theorem dX12_tested_135 : decode cX12_tested 135 = .ok (.iconst 1, 1) := by decide +kernel
theorem dX12_tested_136 : decode cX12_tested 136 = .ok (.invokevirtual 202, 3) := by decide +kernel
theorem dX12_tested_139 : decode cX12_tested 139 = .ok (.iconst 1, 1) := by decide +kernel
theorem dX12_tested_140 : decode cX12_tested 140 = .ok (.ireturn, 1) := by decide +kernel
theorem dX12_tested_119 : decode cX12_tested 119 = .ok (.aload_n 0, 1) := by decide +kernel
theorem dX12_tested_120 : decode cX12_tested 120 = .ok (.invokevirtual 105, 3) := by decide +kernel
theorem dX12_tested_123 : decode cX12_tested 123 = .ok (.pop, 1) := by decide +kernel
theorem dX12_tested_124 : decode cX12_tested 124 = .ok (.aload_n 0, 1) := by decide +kernel
theorem dX12_tested_125 : decode cX12_tested 125 = .ok (.iconst 0, 1) := by decide +kernel
theorem dX12_tested_126 : decode cX12_tested 126 = .ok (.aload_n 0, 1) := by decide +kernel
theorem dX12_tested_127 : decode cX12_tested 127 = .ok (.getfield 102, 3) := by decide +kernel
theorem dX12_tested_130 : decode cX12_tested 130 = .ok (.invokevirtual 123, 3) := by decide +kernel
theorem dX12_tested_133 : decode cX12_tested 133 = .ok (.ireturn, 1) := by decide +kernel
theorem mv_X12_fact : MV RX12 yX12_fact cX12_fact 3 (some .boolean) 0 := ⟨mw_7_20, mp_5_7, mw_1_13, mw_7_21, ⟨rfl, by decide, by decide, by decide +kernel⟩⟩
theorem mv_X12_closes : MV RX12 yX12_closes cX12_closes 1 none 0 := ⟨mw_7_33, mp_5_10, mw_1_13, mw_7_34, ⟨rfl, by decide, by decide, by decide +kernel⟩⟩
set_option maxHeartbeats 4000000 in
set_option maxRecDepth 100000 in
theorem cz_X12_tested (l : Launch) (D : va_G) (cA : Nat → ClassId) (L : List Nat) (T : Nat → Nat) (r : Rg) (hG : GR L T r) (hL : L.Nodup) (σ : Sg) (ρ : Lg) (hW : WT L ry T σ) (sz : Nat) (h0 : Nat) (mh0 : h0 ∈ L) (th0 : T h0 = 12) (bt : Nat) (hbt : r h0 0 = some bt) (mbt : bt ∈ L) (tbt : T bt = 61) (bg : Nat) (hbg : r h0 3 = some bg) (mbg : bg ∈ L) (tbg : T bg = 62) (bl : Nat) (hbl : r h0 4 = some bl) (mbl : bl ∈ L) (tbl : T bl = 63) (bo : Nat) (hbo : r h0 15 = some bo) (mbo : bo ∈ L) (tbo : T bo = 67) (tx : Int32) (k0 : σ h0 11 = tx) (w0 : 0 ≤ tx.toInt) (w1 : tx.toInt ≤ 5) (w2 : Nat) (w3 : SD (σ bg) (σ bl) tx w2 0) (w4 : (σ bl tx.toNatClampNeg).toInt ≤ (σ h0 8).toInt) : Met l yX12_tested (.code yX12_tested cX12_tested 3 (some .boolean) :: wsA) ({ frames := 8, cells := 0, slots := 0, locals := 176 }) (PR D cA L T r σ ρ sz [.ref h0]) (QI D cA L T r ry [(12, 8), (12, 9), (12, 10), (12, 12), (12, 13), (12, 16), (62, 1000), (63, 1000), (67, 1000)] σ sz (fun x σ1 => (0 ≤ x.toInt ∧ x.toInt ≤ 1) ∧ ((σ h0 8).toInt ≤ (σ1 h0 8).toInt) ∧ (EX (σ bg) (σ bl) (σ1 bg) (σ1 bl) tx) ∧ (x.toInt = 1 → SD (σ1 bg) (σ1 bl) tx w2 1 ∧ (σ1 bl tx.toNatClampNeg).toInt ≤ (σ1 h0 8).toInt))) 0 0 (dm L sz) := by
  refine Met.ofW (cc := cX12_tested) (maxL := 3) (ret := (some .boolean)) (by decide) rfl ?_
  intro p e s m args below meth c s₁ B hml hv
  obtain ⟨rfl, hsz, hP, hK, hN⟩ := hv
  have hx := B.exec
  have hb := B.bytes
  have hr := B.returns
  have hts : ∀ w ∈ wsA, w.before _ s = true := fun w h => atoms_spec (ws := .code yX12_tested cX12_tested 3 (some .boolean) :: wsA) B.pre w (List.mem_cons_of_mem _ h)
  have hown : s.vm.findClass RX12 = some m.cls := findClass_of_methodNamed B.named
  subst hsz
  have hLA : LA (dm L s.heap.size) L := ⟨hL, fun a h => Or.inl h⟩
  have hA : ∀ q : Nat, s.heap.size ≤ q → dm L s.heap.size q := fun q h => Or.inr h
  have hS : va_S (dm L s.heap.size) s.heap s.heap [] := va_S.rf
  have hB : TS D cA L T r ry [(12, 8), (12, 9), (12, 10), (12, 12), (12, 13), (12, 16), (62, 1000), (63, 1000), (67, 1000)] σ σ ρ s.heap := ⟨hP, hW, FR.rf⟩
  have hl := lv_entry ([.ref h0]) (n := 3) (Nat.le_of_ble_eq_true rfl)
  rw [lg_entry_eq]
  generalize (lg_sl ([.ref h0]) ++ List.replicate (3 - (lg_sl ([.ref h0])).length) Slot.unset).toArray = ls at hl ⊢
  have hl : lv_has ls 3 [(0, .ref h0)] := hl
  have w_1 : 0 ≤ (σ h0 8).toInt ∧ (σ h0 8).toInt ≤ 400 := by have z := hB.2.1 h0 mh0 8; rw [th0] at z; exact z
  have w_2 : 0 ≤ (σ h0 1).toInt ∧ (σ h0 1).toInt ≤ 400 := by have z := hB.2.1 h0 mh0 1; rw [th0] at z; exact z
  have w_3 : 0 ≤ (σ h0 12).toInt ∧ (σ h0 12).toInt ≤ 60 := by have z := hB.2.1 h0 mh0 12; rw [th0] at z; exact z
  have w_4 : 0 ≤ (σ h0 16).toInt ∧ (σ h0 16).toInt ≤ 400 := by have z := hB.2.1 h0 mh0 16; rw [th0] at z; exact z
  have w_5 : 0 ≤ (σ bl tx.toNatClampNeg).toInt ∧ (σ bl tx.toNatClampNeg).toInt ≤ 400 := by have z := hB.2.1 bl mbl tx.toNatClampNeg; rw [tbl] at z; exact z
  refine lv_aload_n hx hb dX12_tested_0 rfl (lv_at hl 0 rfl) ?_
  refine lv_iconst (v := 0) hx hb dX12_tested_1 (by decide) ?_
  refine t_pi hx hb hts hown hK hLA hB hS mh0 th0 fi_12_16 rfl rfl rfl (by decide) (by decide) (Or.inl (by decide)) mw_5_232 dX12_tested_2 (fun H locs σ_6 eσ_6 hB hS => ?_)
  have k_7 : σ_6 h0 16 = 0 := by rw [eσ_6]; exact up2_same _ _ _ _
  refine lv_aload_n hx hb dX12_tested_5 rfl (lv_at hl 0 rfl) ?_
  refine lv_iconst (v := 0) hx hb dX12_tested_6 (by decide) ?_
  refine t_pi hx hb hts hown hK hLA hB hS mh0 th0 fi_12_13 rfl rfl rfl (i_lo _) (i_hi _) (Or.inl (by decide)) mw_5_229 dX12_tested_7 (fun H locs σ_8 eσ_8 hB hS => ?_)
  have k_9 : σ_8 h0 13 = 0 := by rw [eσ_8]; exact up2_same _ _ _ _
  have k_10 : σ_6 h0 12 = (σ h0 12) := by rw [eσ_6, up2_nej _ _ (by decide)]
  have k_11 : σ_8 h0 12 = (σ h0 12) := by rw [eσ_8, up2_nej _ _ (by decide)]; exact k_10
  have k_12 : σ_6 h0 8 = (σ h0 8) := by rw [eσ_6, up2_nej _ _ (by decide)]
  have k_13 : σ_8 h0 8 = (σ h0 8) := by rw [eσ_8, up2_nej _ _ (by decide)]; exact k_12
  have k_14a := congrFun eσ_6 bg
  rw [up2_row _ _ (tg_ne tbg th0 (by decide))] at k_14a
  have k_15a := congrFun eσ_8 bg
  rw [up2_row _ _ (tg_ne tbg th0 (by decide))] at k_15a
  have k_16a := congrFun eσ_6 bl
  rw [up2_row _ _ (tg_ne tbl th0 (by decide))] at k_16a
  have k_17a := congrFun eσ_8 bl
  rw [up2_row _ _ (tg_ne tbl th0 (by decide))] at k_17a
  have k_18 : σ_8 h0 16 = 0 := by rw [eσ_8, up2_nej _ _ (by decide)]; exact k_7
  have k_19 : σ_6 bl tx.toNatClampNeg = (σ bl tx.toNatClampNeg) := by rw [eσ_6, up2_nea _ _ (tg_ne tbl th0 (by decide))]
  have k_20 : σ_8 bl tx.toNatClampNeg = (σ bl tx.toNatClampNeg) := by rw [eσ_8, up2_nea _ _ (tg_ne tbl th0 (by decide))]; exact k_19
  have TS0 : TV σ_8 h0 bg bl bo tx w2 0 := TV.st (by rw [((k_15a).trans (k_14a)), ((k_17a).trans (k_16a))]; exact w3) (by rw [k_18]; decide) (by rw [k_11]; omega) (by rw [k_20, k_13]; omega)
  refine lv_iconst (v := 1) hx hb dX12_tested_10 (by decide) ?_
  refine lv_istore_n (lv' := [(1, .int 1), (0, .ref h0)]) hx hb dX12_tested_11 rfl hl (by decide) rfl (fun ls hl => ?_)
  have k_21 : σ_6 h0 11 = tx := by rw [eσ_6, up2_nej _ _ (by decide)]; exact k0
  have k_22 : σ_8 h0 11 = tx := by rw [eσ_8, up2_nej _ _ (by decide)]; exact k_21
  have k_23 : σ_6 h0 1 = (σ h0 1) := by rw [eσ_6, up2_nej _ _ (by decide)]
  have k_24 : σ_8 h0 1 = (σ h0 1) := by rw [eσ_8, up2_nej _ _ (by decide)]; exact k_23
  have k_31a := congrFun eσ_6 bg
  rw [up2_row _ _ (tg_ne tbg th0 (by decide))] at k_31a
  have k_32a := congrFun eσ_8 bg
  rw [up2_row _ _ (tg_ne tbg th0 (by decide))] at k_32a
  have k_33a := congrFun eσ_6 bl
  rw [up2_row _ _ (tg_ne tbl th0 (by decide))] at k_33a
  have k_34a := congrFun eσ_8 bl
  rw [up2_row _ _ (tg_ne tbl th0 (by decide))] at k_34a
  have ex_35 : EX (σ bg) (σ bl) (σ_8 bg) (σ_8 bl) tx := by rw [((k_32a).trans (k_31a)), ((k_34a).trans (k_33a))]; exact EX.rf
  refine w_loop (α := Int32 × Sg × Lg) (fun (i_25, σ_26, ρ_27) H locs ls => 0 ≤ i_25.toInt ∧ i_25.toInt ≤ 1 ∧ σ_26 h0 11 = tx ∧ σ_26 h0 1 = (σ h0 1) ∧ (EX (σ bg) (σ bl) (σ_26 bg) (σ_26 bl) tx) ∧ ((i_25.toInt = 1 → TV σ_26 h0 bg bl bo tx w2 0) ∧ (i_25.toInt = 0 → TV σ_26 h0 bg bl bo tx w2 1)) ∧ ((σ h0 8).toInt ≤ (σ_26 h0 8).toInt) ∧ TS D cA L T r ry [(12, 8), (12, 9), (12, 10), (12, 12), (12, 13), (12, 16), (62, 1000), (63, 1000), (67, 1000)] σ σ_26 ρ_27 H ∧ va_S (dm L s.heap.size) s.heap H locs ∧ lv_has ls 3 [(1, .int i_25), (0, .ref h0)]) (fun (i_25, σ_26, ρ_27) => (2 * (400 - (σ_26 h0 8).toInt) + (i_25 : Int32).toInt).toNat) ?_ ⟨1, σ_8, ρ⟩ ⟨(by decide), (by decide), k_22, k_24, ex_35, ⟨fun _ => TS0, fun h => absurd h (by decide)⟩, (by rw [k_13]; omega), hB, hS, lv_sub hl [0, 1] rfl⟩
  rintro ⟨i_25, σ_26, ρ_27⟩ H locs ls ⟨li_25, ui_25, k_29, k_30, g_36, g_37, g_38, hB, hS, hl⟩ ih_28
  have w_39 : 0 ≤ (σ_26 h0 16).toInt ∧ (σ_26 h0 16).toInt ≤ 400 := by have z := hB.2.1 h0 mh0 16; rw [th0] at z; exact z
  have w_40 : 0 ≤ (σ_26 h0 12).toInt ∧ (σ_26 h0 12).toInt ≤ 60 := by have z := hB.2.1 h0 mh0 12; rw [th0] at z; exact z
  have w_41 : 0 ≤ (σ_26 h0 8).toInt ∧ (σ_26 h0 8).toInt ≤ 400 := by have z := hB.2.1 h0 mh0 8; rw [th0] at z; exact z
  have w_42 : 0 ≤ (σ_26 bl tx.toNatClampNeg).toInt ∧ (σ_26 bl tx.toNatClampNeg).toInt ≤ 400 := by have z := hB.2.1 bl mbl tx.toNatClampNeg; rw [tbl] at z; exact z
  have cq_43 := congrArg Int32.toInt k_30
  refine lv_iload_n hx hb dX12_tested_12 rfl (lv_at hl 0 rfl) ?_
  refine lv_if_eq (tgt := 112) hx hb dX12_tested_13 (by decide) (fun c_44 => ?_) (fun c_44 => ?_)
  · skip
    have uc_44 := i_eq (n := 0) (by decide) c_44
    have TFe := g_37.2 (by omega)
    clear g_37
    have TFen := TFe.2.2.2
    refine lv_aload_n hx hb dX12_tested_112 rfl (lv_at hl 1 rfl) ?_
    have cq_45 : (σ_26 h0 1).toInt = (σ h0 1).toInt := congrArg Int32.toInt k_30
    refine t_ci (va_runV (As := []) (rest := []) ⟨hx, hb, hml, hown, hts⟩ (cz_X12_isInside l D cA L T r hG hLA.1 σ_26 ρ_27 hB.2.1 _ h0 mh0 th0 bo hbo mbo tbo) (cV hts mv_X12_isInside mw_7_42 rfl rfl ⟨Nat.le_of_ble_eq_true rfl, Nat.le_of_ble_eq_true rfl⟩) (pV hB.1 hK hN mh0 th0 (show shp cA 12 _ _ _ = .inr (12, Fs12 _ _ _) from rfl) rfl) rfl rfl hl.1 rfl (lv_room (Nat.le_of_ble_eq_true rfl)) dX12_tested_113 ⟨Nat.le_of_ble_eq_true rfl, Nat.le_of_ble_eq_true rfl⟩) hLA hA hB hS (by decide) (fun x_48 σ_46 ρ_47 H locs hB fσ_46 pσ_46 hS => ?_)
    have qσ_46 := FR.nil fσ_46
    subst qσ_46
    obtain ⟨g_49, g_50⟩ := pσ_46
    obtain ⟨lx_48, ux_48⟩ := g_49
    refine lv_if_eq (tgt := 134) hx hb dX12_tested_116 (by decide) (fun c_51 => ?_) (fun c_51 => ?_)
    · skip
      have uc_51 := i_eq (n := 0) (by decide) c_51
      refine lv_aload_n hx hb dX12_tested_134 rfl (lv_at hl 1 rfl) ?_
      refine lv_iconst (v := 1) hx hb dX12_tested_135 (by decide) ?_
      refine t_cv (va_runV (As := [.int 1]) (rest := []) ⟨hx, hb, hml, hown, hts⟩ (cz_X12_settles l D cA L T r hG hLA.1 σ_26 ρ_47 hB.2.1 _ h0 mh0 th0 1 bg hbg mbg tbg bl hbl mbl tbl bo hbo mbo tbo tx k_29 (by first | omega | decide) (by first | omega | decide) w2 TFe (by first | omega | decide)) (cV hts mv_X12_settles mw_7_35 rfl rfl ⟨Nat.le_of_ble_eq_true rfl, Nat.le_of_ble_eq_true rfl⟩) (pV hB.1 hK hN mh0 th0 (show shp cA 12 _ _ _ = .inr (12, Fs12 _ _ _) from rfl) rfl) rfl rfl hl.1 rfl (lv_room (Nat.le_of_ble_eq_true rfl)) dX12_tested_136 ⟨Nat.le_of_ble_eq_true rfl, Nat.le_of_ble_eq_true rfl⟩) hLA hA hB hS (by decide) (fun σ_52 ρ_53 H locs hB fσ_52 pσ_52 hS => ?_)
      obtain ⟨g_55, g_56, g_57, g_58, g_59, g_60⟩ := pσ_52
      have w_61 : 0 ≤ (σ_52 bl tx.toNatClampNeg).toInt ∧ (σ_52 bl tx.toNatClampNeg).toInt ≤ 400 := by have z := hB.2.1 bl mbl tx.toNatClampNeg; rw [tbl] at z; exact z
      have k_62 : σ_52 h0 8 = (σ_26 h0 8) := (FR.at fσ_52 th0 (by decide)).trans rfl
      have k_63 : σ_52 h0 12 = (σ_26 h0 12) := (FR.at fσ_52 th0 (by decide)).trans rfl
      have ex_64 := EX.tr g_36 g_55
      have w_65 : 0 ≤ (σ_52 h0 16).toInt ∧ (σ_52 h0 16).toInt ≤ 400 := by have z := hB.2.1 h0 mh0 16; rw [th0] at z; exact z
      have tn_66 := g_56.2.2.2
      have cq_67 : (σ_52 h0 8).toInt = (σ_26 h0 8).toInt := congrArg Int32.toInt k_62
      have k_68 : σ_52 h0 1 = (σ h0 1) := (FR.at fσ_52 th0 (by decide)).trans k_30
      have cq_69 : (σ_52 h0 1).toInt = (σ h0 1).toInt := congrArg Int32.toInt k_68
      have cq_70 : (σ_52 h0 12).toInt = (σ_26 h0 12).toInt := congrArg Int32.toInt k_63
      have k_71 := FR.row fσ_52 tbo (fun j => by simp)
      have rb39 : σ_52 bo = σ_26 bo := (k_71)
      have hz39 : (σ_52 h0 16).toInt.toNat = 0 := O4.none TFe.2.2.1 (by first | exact g_50.2 (by omega)) _ (by omega) (by have q := g_60 (by decide); rw [rb39] at q; omega)
      have SDe := TV.no g_56 (by omega)
      refine lv_iconst (v := 1) hx hb dX12_tested_139 (by decide) ?_
      exact W.zret (v := 1) hx hb hr rfl (fun t ht hW => ⟨⟨1, (σ_52, ρ_53), rfl, ⟨hB.2.1, hB.2.2, ⟨(show 0 ≤ (1 : Int32).toInt ∧ (1 : Int32).toInt ≤ 1 from ⟨by decide, by decide⟩), (show (σ h0 8).toInt ≤ (σ_52 h0 8).toInt from (by rw [k_62]; omega)), (show EX (σ bg) (σ bl) (σ_52 bg) (σ_52 bl) tx from ex_64), (show (1 : Int32).toInt = 1 → SD (σ_52 bg) (σ_52 bl) tx w2 1 ∧ (σ_52 bl tx.toNatClampNeg).toInt ≤ (σ_52 h0 8).toInt from (fun h => ⟨SDe, (by rw [k_62]; omega)⟩))⟩⟩, (show TP D cA L T r σ_52 ρ_53 t.heap from by rw [ht]; exact hB.1)⟩, hS.F ht⟩) hS.2.2 dX12_tested_140
    · skip
      have uc_51 := i_ne (n := 0) (by decide) c_51
      refine lv_aload_n hx hb dX12_tested_119 rfl (lv_at hl 1 rfl) ?_
      refine t_ci (va_runV (As := []) (rest := []) ⟨hx, hb, hml, hown, hts⟩ (cz_X12_see l D cA L T r hG hLA.1 σ_26 ρ_47 hB.2.1 _ h0 mh0 th0 bt hbt mbt tbt) (cV hts mv_X12_see mw_6_134 rfl rfl ⟨Nat.le_of_ble_eq_true rfl, Nat.le_of_ble_eq_true rfl⟩) (pV hB.1 hK hN mh0 th0 (show shp cA 12 _ _ _ = .inr (12, Fs12 _ _ _) from rfl) rfl) rfl rfl hl.1 rfl (lv_room (Nat.le_of_ble_eq_true rfl)) dX12_tested_120 ⟨Nat.le_of_ble_eq_true rfl, Nat.le_of_ble_eq_true rfl⟩) hLA hA hB hS (by decide) (fun x_74 σ_72 ρ_73 H locs hB fσ_72 pσ_72 hS => ?_)
      obtain ⟨g_75, g_76, g_77, g_78⟩ := pσ_72
      have w_79 : 0 ≤ (σ_72 h0 8).toInt ∧ (σ_72 h0 8).toInt ≤ 400 := by have z := hB.2.1 h0 mh0 8; rw [th0] at z; exact z
      obtain ⟨lx_74, ux_74⟩ := g_75
      have k_80 : σ_72 h0 1 = (σ h0 1) := (FR.at fσ_72 th0 (by decide)).trans k_30
      have cq_81 : (σ_72 h0 1).toInt = (σ h0 1).toInt := congrArg Int32.toInt k_80
      have k_82 : σ_72 h0 12 = (σ_26 h0 12) := (FR.at fσ_72 th0 (by decide)).trans rfl
      have cq_83 : (σ_72 h0 12).toInt = (σ_26 h0 12).toInt := congrArg Int32.toInt k_82
      have k_84 : σ_72 h0 16 = (σ_26 h0 16) := (FR.at fσ_72 th0 (by decide)).trans rfl
      have cq_85 : (σ_72 h0 16).toInt = (σ_26 h0 16).toInt := congrArg Int32.toInt k_84
      have k_86 : σ_72 bl tx.toNatClampNeg = (σ_26 bl tx.toNatClampNeg) := (FR.at fσ_72 tbl (by simp)).trans rfl
      have cq_87 : (σ_72 bl tx.toNatClampNeg).toInt = (σ_26 bl tx.toNatClampNeg).toInt := congrArg Int32.toInt k_86
      refine lv_pop hx hb dX12_tested_123 rfl ?_
      refine lv_aload_n hx hb dX12_tested_124 rfl (lv_at hl 1 rfl) ?_
      refine lv_iconst (v := 0) hx hb dX12_tested_125 (by decide) ?_
      refine lv_aload_n hx hb dX12_tested_126 rfl (lv_at hl 1 rfl) ?_
      refine t_gv hx hb hts hown hK hB mh0 th0 fi_12_8 rfl mw_5_224 dX12_tested_127 ?_
      refine t_ci (va_runV (As := [.int 0, .int (σ_72 h0 8)]) (rest := []) ⟨hx, hb, hml, hown, hts⟩ (cy_X12_fails l D cA L T r hG hLA.1 σ_72 ρ_73 hB.2.1 _ h0 mh0 th0 0 ((σ_72 h0 8)) (by first | omega | decide) (by first | omega | decide) (by first | omega | decide) (by first | omega | decide)) (cV hts mv_X12_fails mw_6_157 rfl rfl ⟨Nat.le_of_ble_eq_true rfl, Nat.le_of_ble_eq_true rfl⟩) (pV hB.1 hK hN mh0 th0 (show shp cA 12 _ _ _ = .inr (12, Fs12 _ _ _) from rfl) rfl) rfl rfl hl.1 rfl (lv_room (Nat.le_of_ble_eq_true rfl)) dX12_tested_130 ⟨Nat.le_of_ble_eq_true rfl, Nat.le_of_ble_eq_true rfl⟩) hLA hA hB hS (by decide) (fun x_90 σ_88 ρ_89 H locs hB fσ_88 pσ_88 hS => ?_)
      subst pσ_88
      have k_91 : σ_88 h0 8 = (σ_72 h0 8) := (FR.at fσ_88 th0 (by decide)).trans rfl
      have cq_92 : (σ_88 h0 8).toInt = (σ_72 h0 8).toInt := congrArg Int32.toInt k_91
      have k_93 : σ_88 h0 1 = (σ h0 1) := (FR.at fσ_88 th0 (by decide)).trans k_80
      have cq_94 : (σ_88 h0 1).toInt = (σ h0 1).toInt := congrArg Int32.toInt k_93
      have k_95 : σ_88 h0 12 = (σ_26 h0 12) := (FR.at fσ_88 th0 (by decide)).trans k_82
      have cq_96 : (σ_88 h0 12).toInt = (σ_26 h0 12).toInt := congrArg Int32.toInt k_95
      have k_97 : σ_88 h0 16 = (σ_26 h0 16) := (FR.at fσ_88 th0 (by decide)).trans k_84
      have cq_98 : (σ_88 h0 16).toInt = (σ_26 h0 16).toInt := congrArg Int32.toInt k_97
      have k_99 : σ_88 bl tx.toNatClampNeg = (σ_26 bl tx.toNatClampNeg) := (FR.at fσ_88 tbl (by simp)).trans k_86
      have cq_100 : (σ_88 bl tx.toNatClampNeg).toInt = (σ_26 bl tx.toNatClampNeg).toInt := congrArg Int32.toInt k_99
      have k_101 := FR.row fσ_72 tbg (fun j => by simp)
      have k_102 := FR.row fσ_88 tbg (fun j => by simp)
      have k_103 := FR.row fσ_72 tbl (fun j => by simp)
      have k_104 := FR.row fσ_88 tbl (fun j => by simp)
      have ex_105 : EX (σ bg) (σ bl) (σ_88 bg) (σ_88 bl) tx := by rw [((k_102).trans (k_101)), ((k_104).trans (k_103))]; exact g_36
      exact W.zret (v := 0) hx hb hr rfl (fun t ht hW => ⟨⟨0, (σ_88, ρ_89), rfl, ⟨hB.2.1, hB.2.2, ⟨(show 0 ≤ (0 : Int32).toInt ∧ (0 : Int32).toInt ≤ 1 from ⟨by decide, by decide⟩), (show (σ h0 8).toInt ≤ (σ_88 h0 8).toInt from (by rw [k_91]; omega)), (show EX (σ bg) (σ bl) (σ_88 bg) (σ_88 bl) tx from ex_105), (show (0 : Int32).toInt = 1 → SD (σ_88 bg) (σ_88 bl) tx w2 1 ∧ (σ_88 bl tx.toNatClampNeg).toInt ≤ (σ_88 h0 8).toInt from (fun h => absurd h (by decide)))⟩⟩, (show TP D cA L T r σ_88 ρ_89 t.heap from by rw [ht]; exact hB.1)⟩, hS.F ht⟩) hS.2.2 dX12_tested_133
  · skip
    have uc_44 := i_ne (n := 0) (by decide) c_44
    refine lv_aload_n hx hb dX12_tested_16 rfl (lv_at hl 1 rfl) ?_
    have TFb := g_37.1 (by omega)
    clear g_37
    have TFbn := TFb.2.2.2
    have cq_106 : (σ_26 h0 1).toInt = (σ h0 1).toInt := congrArg Int32.toInt k_30
    refine t_ci (va_runV (As := []) (rest := []) ⟨hx, hb, hml, hown, hts⟩ (cz_X12_fact l D cA L T r hG hLA.1 σ_26 ρ_27 hB.2.1 _ h0 mh0 th0 bt hbt mbt tbt bg hbg mbg tbg bl hbl mbl tbl bo hbo mbo tbo tx k_29 (by first | omega | decide) (by first | omega | decide) w2 TFb) (cV hts mv_X12_fact mw_7_18 rfl rfl ⟨Nat.le_of_ble_eq_true rfl, Nat.le_of_ble_eq_true rfl⟩) (pV hB.1 hK hN mh0 th0 (show shp cA 12 _ _ _ = .inr (12, Fs12 _ _ _) from rfl) rfl) rfl rfl hl.1 rfl (lv_room (Nat.le_of_ble_eq_true rfl)) dX12_tested_17 ⟨Nat.le_of_ble_eq_true rfl, Nat.le_of_ble_eq_true rfl⟩) hLA hA hB hS (by decide) (fun x_109 σ_107 ρ_108 H locs hB fσ_107 pσ_107 hS => ?_)
    obtain ⟨g_110, g_111, g_112, g_113⟩ := pσ_107
    have w_114 : 0 ≤ (σ_107 bl tx.toNatClampNeg).toInt ∧ (σ_107 bl tx.toNatClampNeg).toInt ≤ 400 := by have z := hB.2.1 bl mbl tx.toNatClampNeg; rw [tbl] at z; exact z
    have w_115 : 0 ≤ (σ_107 h0 8).toInt ∧ (σ_107 h0 8).toInt ≤ 400 := by have z := hB.2.1 h0 mh0 8; rw [th0] at z; exact z
    have w_116 : 0 ≤ (σ_107 h0 12).toInt ∧ (σ_107 h0 12).toInt ≤ 60 := by have z := hB.2.1 h0 mh0 12; rw [th0] at z; exact z
    have ex_117 := EX.tr g_36 g_112
    have w_118 : 0 ≤ (σ_107 h0 16).toInt ∧ (σ_107 h0 16).toInt ≤ 400 := by have z := hB.2.1 h0 mh0 16; rw [th0] at z; exact z
    obtain ⟨lx_109, ux_109⟩ := g_110
    have k_119 : σ_107 h0 1 = (σ h0 1) := (FR.at fσ_107 th0 (by decide)).trans k_30
    have cq_120 : (σ_107 h0 1).toInt = (σ h0 1).toInt := congrArg Int32.toInt k_119
    refine lv_if_ne (tgt := 25) hx hb dX12_tested_20 (by decide) (fun c_121 => ?_) (fun c_121 => ?_)
    · skip
      have uc_121 := i_ne (n := 0) (by decide) c_121
      have TG1 := g_113 (by omega)
      clear g_113
      have TG1n := TG1.2.2.2
      refine lv_aload_n hx hb dX12_tested_25 rfl (lv_at hl 1 rfl) ?_
      have k_122 : σ_107 h0 11 = tx := (FR.at fσ_107 th0 (by decide)).trans k_29
      refine t_cv (va_runV (As := []) (rest := []) ⟨hx, hb, hml, hown, hts⟩ (cz_X12_closes l D cA L T r hG hLA.1 σ_107 ρ_108 hB.2.1 _ h0 mh0 th0 bt hbt mbt tbt bg hbg mbg tbg bl hbl mbl tbl bo hbo mbo tbo tx k_122 (by first | omega | decide) (by first | omega | decide) w2 TG1) (cV hts mv_X12_closes mw_7_31 rfl rfl ⟨Nat.le_of_ble_eq_true rfl, Nat.le_of_ble_eq_true rfl⟩) (pV hB.1 hK hN mh0 th0 (show shp cA 12 _ _ _ = .inr (12, Fs12 _ _ _) from rfl) rfl) rfl rfl hl.1 rfl (lv_room (Nat.le_of_ble_eq_true rfl)) dX12_tested_26 ⟨Nat.le_of_ble_eq_true rfl, Nat.le_of_ble_eq_true rfl⟩) hLA hA hB hS (by decide) (fun σ_123 ρ_124 H locs hB fσ_123 pσ_123 hS => ?_)
      obtain ⟨g_126, g_127, g_128⟩ := pσ_123
      have w_129 : 0 ≤ (σ_123 bl tx.toNatClampNeg).toInt ∧ (σ_123 bl tx.toNatClampNeg).toInt ≤ 400 := by have z := hB.2.1 bl mbl tx.toNatClampNeg; rw [tbl] at z; exact z
      have w_130 : 0 ≤ (σ_123 h0 8).toInt ∧ (σ_123 h0 8).toInt ≤ 400 := by have z := hB.2.1 h0 mh0 8; rw [th0] at z; exact z
      have k_131 : σ_123 h0 12 = (σ_107 h0 12) := (FR.at fσ_123 th0 (by decide)).trans rfl
      have ex_132 := EX.tr ex_117 g_127
      have w_133 : 0 ≤ (σ_123 h0 16).toInt ∧ (σ_123 h0 16).toInt ≤ 400 := by have z := hB.2.1 h0 mh0 16; rw [th0] at z; exact z
      have tn_134 := g_128.2.2.2
      have k_135 : σ_123 h0 1 = (σ h0 1) := (FR.at fσ_123 th0 (by decide)).trans k_119
      have cq_136 : (σ_123 h0 1).toInt = (σ h0 1).toInt := congrArg Int32.toInt k_135
      have cq_137 : (σ_123 h0 12).toInt = (σ_107 h0 12).toInt := congrArg Int32.toInt k_131
      refine lv_aload_n hx hb dX12_tested_29 rfl (lv_at hl 1 rfl) ?_
      refine lv_ldc2 (v := 6385252) hx hb hown (hts _ mw_7_46) dX12_tested_30 ?_
      refine t_ci (va_runV (As := [.long 6385252]) (rest := []) ⟨hx, hb, hml, hown, hts⟩ (cz_X12_isWord l D cA L T r hG hLA.1 σ_123 ρ_124 hB.2.1 _ h0 mh0 th0 6385252 bt hbt mbt tbt) (cV hts mv_X12_isWord mw_6_143 rfl rfl ⟨Nat.le_of_ble_eq_true rfl, Nat.le_of_ble_eq_true rfl⟩) (pV hB.1 hK hN mh0 th0 (show shp cA 12 _ _ _ = .inr (12, Fs12 _ _ _) from rfl) rfl) rfl rfl hl.1 rfl (lv_room (Nat.le_of_ble_eq_true rfl)) dX12_tested_33 ⟨Nat.le_of_ble_eq_true rfl, Nat.le_of_ble_eq_true rfl⟩) hLA hA hB hS (by decide) (fun x_140 σ_138 ρ_139 H locs hB fσ_138 pσ_138 hS => ?_)
      obtain ⟨g_141, g_142, g_143, g_144⟩ := pσ_138
      have w_145 : 0 ≤ (σ_138 h0 8).toInt ∧ (σ_138 h0 8).toInt ≤ 400 := by have z := hB.2.1 h0 mh0 8; rw [th0] at z; exact z
      obtain ⟨lx_140, ux_140⟩ := g_141
      have k_146 : σ_138 h0 1 = (σ h0 1) := (FR.at fσ_138 th0 (by decide)).trans k_135
      have cq_147 : (σ_138 h0 1).toInt = (σ h0 1).toInt := congrArg Int32.toInt k_146
      have k_148 : σ_138 h0 12 = (σ_107 h0 12) := (FR.at fσ_138 th0 (by decide)).trans k_131
      have cq_149 : (σ_138 h0 12).toInt = (σ_107 h0 12).toInt := congrArg Int32.toInt k_148
      have k_150 : σ_138 h0 16 = (σ_123 h0 16) := (FR.at fσ_138 th0 (by decide)).trans rfl
      have cq_151 : (σ_138 h0 16).toInt = (σ_123 h0 16).toInt := congrArg Int32.toInt k_150
      have k_152 : σ_138 bl tx.toNatClampNeg = (σ_123 bl tx.toNatClampNeg) := (FR.at fσ_138 tbl (by simp)).trans rfl
      have cq_153 : (σ_138 bl tx.toNatClampNeg).toInt = (σ_123 bl tx.toNatClampNeg).toInt := congrArg Int32.toInt k_152
      refine lv_if_ne (tgt := 49) hx hb dX12_tested_36 (by decide) (fun c_154 => ?_) (fun c_154 => ?_)
      · skip
        have uc_154 := i_ne (n := 0) (by decide) c_154
        obtain ⟨lw_155a, lw_155b, lw_155c⟩ := g_143 (by omega)
        clear g_143 g_144
        refine lv_iconst (v := 1) hx hb dX12_tested_49 (by decide) ?_
        refine lv_goto (tgt := 54) hx hb dX12_tested_50 (by decide) ?_
        refine lv_istore_n (lv' := [(1, .int 1), (0, .ref h0)]) hx hb dX12_tested_54 rfl hl (by decide) rfl (fun ls hl => ?_)
        refine lv_iload_n hx hb dX12_tested_55 rfl (lv_at hl 0 rfl) ?_
        refine lv_if_eq (tgt := 12) hx hb dX12_tested_56 (by decide) (fun c9 => absurd c9 (by decide)) (fun _ => ?_)
        refine lv_aload_n hx hb dX12_tested_59 rfl (lv_at hl 1 rfl) ?_
        refine lv_ldc2 (v := 6385252) hx hb hown (hts _ mw_7_46) dX12_tested_60 ?_
        refine t_ci (va_runV (As := [.long 6385252]) (rest := []) ⟨hx, hb, hml, hown, hts⟩ (cz_X12_isWord l D cA L T r hG hLA.1 σ_138 ρ_139 hB.2.1 _ h0 mh0 th0 6385252 bt hbt mbt tbt) (cV hts mv_X12_isWord mw_6_143 rfl rfl ⟨Nat.le_of_ble_eq_true rfl, Nat.le_of_ble_eq_true rfl⟩) (pV hB.1 hK hN mh0 th0 (show shp cA 12 _ _ _ = .inr (12, Fs12 _ _ _) from rfl) rfl) rfl rfl hl.1 rfl (lv_room (Nat.le_of_ble_eq_true rfl)) dX12_tested_63 ⟨Nat.le_of_ble_eq_true rfl, Nat.le_of_ble_eq_true rfl⟩) hLA hA hB hS (by decide) (fun x_158 σ_156 ρ_157 H locs hB fσ_156 pσ_156 hS => ?_)
        obtain ⟨g_159, g_160, g_161, g_162⟩ := pσ_156
        have w_163 : 0 ≤ (σ_156 h0 8).toInt ∧ (σ_156 h0 8).toInt ≤ 400 := by have z := hB.2.1 h0 mh0 8; rw [th0] at z; exact z
        obtain ⟨lx_158, ux_158⟩ := g_159
        have k_164 : σ_156 h0 1 = (σ h0 1) := (FR.at fσ_156 th0 (by decide)).trans k_146
        have cq_165 : (σ_156 h0 1).toInt = (σ h0 1).toInt := congrArg Int32.toInt k_164
        have k_166 : σ_156 h0 12 = (σ_107 h0 12) := (FR.at fσ_156 th0 (by decide)).trans k_148
        have cq_167 : (σ_156 h0 12).toInt = (σ_107 h0 12).toInt := congrArg Int32.toInt k_166
        have k_168 : σ_156 h0 16 = (σ_123 h0 16) := (FR.at fσ_156 th0 (by decide)).trans k_150
        have cq_169 : (σ_156 h0 16).toInt = (σ_123 h0 16).toInt := congrArg Int32.toInt k_168
        have k_170 : σ_156 bl tx.toNatClampNeg = (σ_123 bl tx.toNatClampNeg) := (FR.at fσ_156 tbl (by simp)).trans k_152
        have cq_171 : (σ_156 bl tx.toNatClampNeg).toInt = (σ_123 bl tx.toNatClampNeg).toInt := congrArg Int32.toInt k_170
        have le_172 := g_162 ⟨by omega, by omega⟩
        clear g_161 g_162
        refine lv_if_eq (tgt := 74) hx hb dX12_tested_66 (by decide) (fun c_173 => ?_) (fun c_173 => ?_)
        · skip
          have uc_173 := i_eq (n := 0) (by decide) c_173
          refine lv_bipush (v := 13) hx hb dX12_tested_74 (by decide) ?_
          refine lv_istore_n (lv' := [(2, .int 13), (1, .int 1), (0, .ref h0)]) hx hb dX12_tested_76 rfl hl (by decide) rfl (fun ls hl => ?_)
          refine lv_aload_n hx hb dX12_tested_77 rfl (lv_at hl 2 rfl) ?_
          have k_174 := FR.row fσ_156 tbt (fun j => by simp)
          have lt78 : (σ_156 bt (σ_156 h0 8).toNatClampNeg).toInt = (σ_138 bt (σ_138 h0 8).toNatClampNeg).toInt := by rw [(k_174)]; exact nb_c (by omega)
          refine t_cv (va_runV (As := []) (rest := []) ⟨hx, hb, hml, hown, hts⟩ (cz_X12_passWord l D cA L T r hG hLA.1 σ_156 ρ_157 hB.2.1 _ h0 mh0 th0 bt hbt mbt tbt) (cV hts mv_X12_passWord mw_6_169 rfl rfl ⟨Nat.le_of_ble_eq_true rfl, Nat.le_of_ble_eq_true rfl⟩) (pV hB.1 hK hN mh0 th0 (show shp cA 12 _ _ _ = .inr (12, Fs12 _ _ _) from rfl) rfl) rfl rfl hl.1 rfl (lv_room (Nat.le_of_ble_eq_true rfl)) dX12_tested_78 ⟨Nat.le_of_ble_eq_true rfl, Nat.le_of_ble_eq_true rfl⟩) hLA hA hB hS (by decide) (fun σ_175 ρ_176 H locs hB fσ_175 pσ_175 hS => ?_)
          obtain ⟨g_178, g_179⟩ := pσ_175
          have w_180 : 0 ≤ (σ_175 h0 8).toInt ∧ (σ_175 h0 8).toInt ≤ 400 := by have z := hB.2.1 h0 mh0 8; rw [th0] at z; exact z
          have k_181 : σ_175 h0 1 = (σ h0 1) := (FR.at fσ_175 th0 (by decide)).trans k_164
          have cq_182 : (σ_175 h0 1).toInt = (σ h0 1).toInt := congrArg Int32.toInt k_181
          have k_183 : σ_175 h0 12 = (σ_107 h0 12) := (FR.at fσ_175 th0 (by decide)).trans k_166
          have cq_184 : (σ_175 h0 12).toInt = (σ_107 h0 12).toInt := congrArg Int32.toInt k_183
          have k_185 : σ_175 h0 16 = (σ_123 h0 16) := (FR.at fσ_175 th0 (by decide)).trans k_168
          have cq_186 : (σ_175 h0 16).toInt = (σ_123 h0 16).toInt := congrArg Int32.toInt k_185
          have k_187 : σ_175 bl tx.toNatClampNeg = (σ_123 bl tx.toNatClampNeg) := (FR.at fσ_175 tbl (by simp)).trans k_170
          have cq_188 : (σ_175 bl tx.toNatClampNeg).toInt = (σ_123 bl tx.toNatClampNeg).toInt := congrArg Int32.toInt k_187
          refine lv_aload_n hx hb dX12_tested_81 rfl (lv_at hl 2 rfl) ?_
          refine lv_iload_n hx hb dX12_tested_82 rfl (lv_at hl 0 rfl) ?_
          have zs83 : (13 : Int32).toInt = 13 := by decide
          refine t_ci (va_runS (As := [.int 13]) (rest := [.ref h0]) ⟨hx, hb, hml, hown, hts⟩ (cz_X12_strength l D cA L T r hG hLA.1 σ_175 ρ_176 hB.2.1 _ 13) (cS hts ms_X12_strength mw_7_39 rfl rfl ⟨Nat.le_of_ble_eq_true rfl, Nat.le_of_ble_eq_true rfl⟩) (pS hB.1 hK hN) rfl rfl hl.1 rfl (lv_room (Nat.le_of_ble_eq_true rfl)) dX12_tested_83 ⟨Nat.le_of_ble_eq_true rfl, Nat.le_of_ble_eq_true rfl⟩) hLA hA hB hS (by decide) (fun x_191 σ_189 ρ_190 H locs hB fσ_189 pσ_189 hS => ?_)
          have qσ_189 := FR.nil fσ_189
          subst qσ_189
          obtain ⟨ax_191, bx_191, cx_191, dx_191, fx_191, ix_191⟩ := pσ_189
          have z86 : 1 ≤ x_191.toInt := by omega
          clear cx_191 dx_191 fx_191 ix_191
          have k_193 := FR.row fσ_138 tbg (fun j => by simp)
          have k_194 := FR.row fσ_156 tbg (fun j => by simp)
          have k_195 := FR.row fσ_175 tbg (fun j => by simp)
          have k_196 := FR.row fσ_138 tbl (fun j => by simp)
          have k_197 := FR.row fσ_156 tbl (fun j => by simp)
          have k_198 := FR.row fσ_175 tbl (fun j => by simp)
          have k_199 := FR.row fσ_138 tbo (fun j => by simp)
          have k_200 := FR.row fσ_156 tbo (fun j => by simp)
          have k_201 := FR.row fσ_175 tbo (fun j => by simp)
          have TW_192 : TV σ_175 h0 bg bl bo tx w2 1 := TV.fr g_128 ((k_195).trans ((k_194).trans (k_193))) ((k_198).trans ((k_197).trans (k_196))) ((k_201).trans ((k_200).trans (k_199))) (k_185) (by rw [k_183, k_131]; omega) (by omega)
          have TW_192n := TW_192.2.2.2
          have k_202 : σ_123 h0 11 = tx := (FR.at fσ_123 th0 (by decide)).trans k_122
          have k_203 : σ_138 h0 11 = tx := (FR.at fσ_138 th0 (by decide)).trans k_202
          have k_204 : σ_156 h0 11 = tx := (FR.at fσ_156 th0 (by decide)).trans k_203
          have k_205 : σ_175 h0 11 = tx := (FR.at fσ_175 th0 (by decide)).trans k_204
          refine t_cv (va_runV (As := [.int x_191]) (rest := []) ⟨hx, hb, hml, hown, hts⟩ (cz_X12_settles l D cA L T r hG hLA.1 σ_175 ρ_190 hB.2.1 _ h0 mh0 th0 x_191 bg hbg mbg tbg bl hbl mbl tbl bo hbo mbo tbo tx k_205 (by first | omega | decide) (by first | omega | decide) w2 TW_192 (by first | omega | decide)) (cV hts mv_X12_settles mw_7_35 rfl rfl ⟨Nat.le_of_ble_eq_true rfl, Nat.le_of_ble_eq_true rfl⟩) (pV hB.1 hK hN mh0 th0 (show shp cA 12 _ _ _ = .inr (12, Fs12 _ _ _) from rfl) rfl) rfl rfl hl.1 rfl (lv_room (Nat.le_of_ble_eq_true rfl)) dX12_tested_86 ⟨Nat.le_of_ble_eq_true rfl, Nat.le_of_ble_eq_true rfl⟩) hLA hA hB hS (by decide) (fun σ_206 ρ_207 H locs hB fσ_206 pσ_206 hS => ?_)
          obtain ⟨g_209, g_210, g_211, g_212, g_213, g_214⟩ := pσ_206
          have w_215 : 0 ≤ (σ_206 bl tx.toNatClampNeg).toInt ∧ (σ_206 bl tx.toNatClampNeg).toInt ≤ 400 := by have z := hB.2.1 bl mbl tx.toNatClampNeg; rw [tbl] at z; exact z
          have k_216 : σ_206 h0 8 = (σ_175 h0 8) := (FR.at fσ_206 th0 (by decide)).trans rfl
          have k_217 : σ_206 h0 12 = (σ_107 h0 12) := (FR.at fσ_206 th0 (by decide)).trans k_183
          have k_218 := FR.row fσ_138 tbg (fun j => by simp)
          have k_219 := FR.row fσ_156 tbg (fun j => by simp)
          have k_220 := FR.row fσ_175 tbg (fun j => by simp)
          have k_221 := FR.row fσ_138 tbl (fun j => by simp)
          have k_222 := FR.row fσ_156 tbl (fun j => by simp)
          have k_223 := FR.row fσ_175 tbl (fun j => by simp)
          have ex_224 : EX (σ bg) (σ bl) (σ_175 bg) (σ_175 bl) tx := by rw [((k_220).trans ((k_219).trans (k_218))), ((k_223).trans ((k_222).trans (k_221)))]; exact ex_132
          have ex_225 := EX.tr ex_224 g_209
          have w_226 : 0 ≤ (σ_206 h0 16).toInt ∧ (σ_206 h0 16).toInt ≤ 400 := by have z := hB.2.1 h0 mh0 16; rw [th0] at z; exact z
          have tn_227 := g_210.2.2.2
          have cq_228 : (σ_206 h0 8).toInt = (σ_175 h0 8).toInt := congrArg Int32.toInt k_216
          have k_229 : σ_206 h0 1 = (σ h0 1) := (FR.at fσ_206 th0 (by decide)).trans k_181
          have cq_230 : (σ_206 h0 1).toInt = (σ h0 1).toInt := congrArg Int32.toInt k_229
          have cq_231 : (σ_206 h0 12).toInt = (σ_107 h0 12).toInt := congrArg Int32.toInt k_217
          clear g_214 g_212
          refine lv_aload_n hx hb dX12_tested_89 rfl (lv_at hl 2 rfl) ?_
          refine t_gk hx hb hts hown hK hB mh0 th0 fq_12_15 hbo mw_5_231 dX12_tested_90 ?_
          refine lv_aload_n hx hb dX12_tested_93 rfl (lv_at hl 2 rfl) ?_
          refine t_gv hx hb hts hown hK hB mh0 th0 fi_12_16 rfl mw_5_232 dX12_tested_94 ?_
          refine lv_iload_n hx hb dX12_tested_97 rfl (lv_at hl 0 rfl) ?_
          refine t_si hx hb hK hLA hB hS mbo tbo ai_67 (i_in (by omega) (by omega)) (i_lo _) (i_hi _) (Or.inr (by decide)) dX12_tested_98 (fun H locs σ_232 eσ_232 hB hS => ?_)
          have k_233 : σ_232 bo (σ_206 h0 16).toNatClampNeg = 13 := by rw [eσ_232]; exact up2_same _ _ _ _
          refine lv_aload_n hx hb dX12_tested_99 rfl (lv_at hl 2 rfl) ?_
          refine lv_dup hx hb dX12_tested_100 rfl ?_
          have k_234 : σ_232 h0 16 = (σ_206 h0 16) := by rw [eσ_232, up2_nea _ _ (tg_ne th0 tbo (by decide))]
          refine t_gv hx hb hts hown hK hB mh0 th0 fi_12_16 k_234 mw_5_232 dX12_tested_101 ?_
          refine lv_iconst (v := 1) hx hb dX12_tested_104 (by decide) ?_
          refine lv_iadd hx hb dX12_tested_105 ?_
          refine lv_topi (fun x_235 ex_235 => ?_)
          have vx_235 := b_add (rfl : (σ_206 h0 16).toInt = _) (by decide : (1 : Int32).toInt = 1) ex_235 (by omega) (by omega)
          refine t_pi hx hb hts hown hK hLA hB hS mh0 th0 fi_12_16 rfl rfl rfl (by first | omega | (subst_vars; omega)) (by first | omega | (subst_vars; omega)) (Or.inl (by decide)) mw_5_232 dX12_tested_106 (fun H locs σ_236 eσ_236 hB hS => ?_)
          have k_237 : σ_236 h0 16 = x_235 := by rw [eσ_236]; exact up2_same _ _ _ _
          have hc9 : (σ_206 h0 16).toNatClampNeg = (σ_206 h0 16).toInt.toNat := rfl
          have k_238a := congrFun eσ_232 bg
          rw [up2_row _ _ (tg_ne tbg tbo (by decide))] at k_238a
          have k_239a := congrFun eσ_236 bg
          rw [up2_row _ _ (tg_ne tbg th0 (by decide))] at k_239a
          have k_240a := congrFun eσ_232 bl
          rw [up2_row _ _ (tg_ne tbl tbo (by decide))] at k_240a
          have k_241a := congrFun eσ_236 bl
          rw [up2_row _ _ (tg_ne tbl th0 (by decide))] at k_241a
          have k_242a := congrFun eσ_236 bo
          rw [up2_row _ _ (tg_ne tbo th0 (by decide))] at k_242a
          have k_243 : σ_232 h0 12 = (σ_107 h0 12) := by rw [eσ_232, up2_nea _ _ (tg_ne th0 tbo (by decide))]; exact k_217
          have k_244 : σ_236 h0 12 = (σ_107 h0 12) := by rw [eσ_236, up2_nej _ _ (by decide)]; exact k_243
          have k_245 : σ_232 h0 8 = (σ_175 h0 8) := by rw [eσ_232, up2_nea _ _ (tg_ne th0 tbo (by decide))]; exact k_216
          have k_246 : σ_236 h0 8 = (σ_175 h0 8) := by rw [eσ_236, up2_nej _ _ (by decide)]; exact k_245
          have TJ1 : TV σ_236 h0 bg bl bo tx w2 0 := TV.jn (w := 13) g_210 (by decide) (by omega) ((k_239a).trans (k_238a)) ((k_241a).trans (k_240a)) (fun j => by rw [(k_242a), eσ_232, up2_if, hc9]) (by rw [k_237]; omega) (by rw [k_244]; omega) (by rw [k_246]; omega)
          refine lv_goto (tgt := 12) hx hb dX12_tested_109 (by decide) ?_
          have k_247 : σ_206 h0 11 = tx := (FR.at fσ_206 th0 (by decide)).trans k_205
          have k_248 : σ_232 h0 11 = tx := by rw [eσ_232, up2_nea _ _ (tg_ne th0 tbo (by decide))]; exact k_247
          have k_249 : σ_236 h0 11 = tx := by rw [eσ_236, up2_nej _ _ (by decide)]; exact k_248
          have k_250 : σ_232 h0 1 = (σ h0 1) := by rw [eσ_232, up2_nea _ _ (tg_ne th0 tbo (by decide))]; exact k_229
          have k_251 : σ_236 h0 1 = (σ h0 1) := by rw [eσ_236, up2_nej _ _ (by decide)]; exact k_250
          have k_252a := congrFun eσ_232 bg
          rw [up2_row _ _ (tg_ne tbg tbo (by decide))] at k_252a
          have k_253a := congrFun eσ_236 bg
          rw [up2_row _ _ (tg_ne tbg th0 (by decide))] at k_253a
          have k_254a := congrFun eσ_232 bl
          rw [up2_row _ _ (tg_ne tbl tbo (by decide))] at k_254a
          have k_255a := congrFun eσ_236 bl
          rw [up2_row _ _ (tg_ne tbl th0 (by decide))] at k_255a
          have ex_256 : EX (σ bg) (σ bl) (σ_236 bg) (σ_236 bl) tx := by rw [((k_253a).trans (k_252a)), ((k_255a).trans (k_254a))]; exact ex_225
          exact ih_28 ⟨1, σ_236, ρ_207⟩ _ _ _ ⟨(by decide), (by decide), k_249, k_251, ex_256, ⟨fun _ => TJ1, fun h => absurd h (by decide)⟩, (by rw [k_246]; omega), hB, hS, lv_sub hl [1, 2] rfl⟩ (by show (2 * (400 - (σ_236 h0 8).toInt) + (1 : Int32).toInt).toNat < (2 * (400 - (σ_26 h0 8).toInt) + (i_25 : Int32).toInt).toNat; rw [k_246]; have z1 : (1 : Int32).toInt = 1 := (by decide); have z0 : (0 : Int32).toInt = 0 := (by decide); omega)
        · skip
          have uc_173 := i_ne (n := 0) (by decide) c_173
          refine lv_bipush (v := 12) hx hb dX12_tested_69 (by decide) ?_
          refine lv_goto (tgt := 76) hx hb dX12_tested_71 (by decide) ?_
          refine lv_istore_n (lv' := [(2, .int 12), (1, .int 1), (0, .ref h0)]) hx hb dX12_tested_76 rfl hl (by decide) rfl (fun ls hl => ?_)
          refine lv_aload_n hx hb dX12_tested_77 rfl (lv_at hl 2 rfl) ?_
          have k_257 := FR.row fσ_156 tbt (fun j => by simp)
          have lt78 : (σ_156 bt (σ_156 h0 8).toNatClampNeg).toInt = (σ_138 bt (σ_138 h0 8).toNatClampNeg).toInt := by rw [(k_257)]; exact nb_c (by omega)
          refine t_cv (va_runV (As := []) (rest := []) ⟨hx, hb, hml, hown, hts⟩ (cz_X12_passWord l D cA L T r hG hLA.1 σ_156 ρ_157 hB.2.1 _ h0 mh0 th0 bt hbt mbt tbt) (cV hts mv_X12_passWord mw_6_169 rfl rfl ⟨Nat.le_of_ble_eq_true rfl, Nat.le_of_ble_eq_true rfl⟩) (pV hB.1 hK hN mh0 th0 (show shp cA 12 _ _ _ = .inr (12, Fs12 _ _ _) from rfl) rfl) rfl rfl hl.1 rfl (lv_room (Nat.le_of_ble_eq_true rfl)) dX12_tested_78 ⟨Nat.le_of_ble_eq_true rfl, Nat.le_of_ble_eq_true rfl⟩) hLA hA hB hS (by decide) (fun σ_258 ρ_259 H locs hB fσ_258 pσ_258 hS => ?_)
          obtain ⟨g_261, g_262⟩ := pσ_258
          have w_263 : 0 ≤ (σ_258 h0 8).toInt ∧ (σ_258 h0 8).toInt ≤ 400 := by have z := hB.2.1 h0 mh0 8; rw [th0] at z; exact z
          have k_264 : σ_258 h0 1 = (σ h0 1) := (FR.at fσ_258 th0 (by decide)).trans k_164
          have cq_265 : (σ_258 h0 1).toInt = (σ h0 1).toInt := congrArg Int32.toInt k_264
          have k_266 : σ_258 h0 12 = (σ_107 h0 12) := (FR.at fσ_258 th0 (by decide)).trans k_166
          have cq_267 : (σ_258 h0 12).toInt = (σ_107 h0 12).toInt := congrArg Int32.toInt k_266
          have k_268 : σ_258 h0 16 = (σ_123 h0 16) := (FR.at fσ_258 th0 (by decide)).trans k_168
          have cq_269 : (σ_258 h0 16).toInt = (σ_123 h0 16).toInt := congrArg Int32.toInt k_268
          have k_270 : σ_258 bl tx.toNatClampNeg = (σ_123 bl tx.toNatClampNeg) := (FR.at fσ_258 tbl (by simp)).trans k_170
          have cq_271 : (σ_258 bl tx.toNatClampNeg).toInt = (σ_123 bl tx.toNatClampNeg).toInt := congrArg Int32.toInt k_270
          refine lv_aload_n hx hb dX12_tested_81 rfl (lv_at hl 2 rfl) ?_
          refine lv_iload_n hx hb dX12_tested_82 rfl (lv_at hl 0 rfl) ?_
          have zs83 : (12 : Int32).toInt = 12 := by decide
          refine t_ci (va_runS (As := [.int 12]) (rest := [.ref h0]) ⟨hx, hb, hml, hown, hts⟩ (cz_X12_strength l D cA L T r hG hLA.1 σ_258 ρ_259 hB.2.1 _ 12) (cS hts ms_X12_strength mw_7_39 rfl rfl ⟨Nat.le_of_ble_eq_true rfl, Nat.le_of_ble_eq_true rfl⟩) (pS hB.1 hK hN) rfl rfl hl.1 rfl (lv_room (Nat.le_of_ble_eq_true rfl)) dX12_tested_83 ⟨Nat.le_of_ble_eq_true rfl, Nat.le_of_ble_eq_true rfl⟩) hLA hA hB hS (by decide) (fun x_274 σ_272 ρ_273 H locs hB fσ_272 pσ_272 hS => ?_)
          have qσ_272 := FR.nil fσ_272
          subst qσ_272
          obtain ⟨ax_274, bx_274, cx_274, dx_274, fx_274, ix_274⟩ := pσ_272
          have z86 : 1 ≤ x_274.toInt := by omega
          clear cx_274 dx_274 fx_274 ix_274
          have k_276 := FR.row fσ_138 tbg (fun j => by simp)
          have k_277 := FR.row fσ_156 tbg (fun j => by simp)
          have k_278 := FR.row fσ_258 tbg (fun j => by simp)
          have k_279 := FR.row fσ_138 tbl (fun j => by simp)
          have k_280 := FR.row fσ_156 tbl (fun j => by simp)
          have k_281 := FR.row fσ_258 tbl (fun j => by simp)
          have k_282 := FR.row fσ_138 tbo (fun j => by simp)
          have k_283 := FR.row fσ_156 tbo (fun j => by simp)
          have k_284 := FR.row fσ_258 tbo (fun j => by simp)
          have TW_275 : TV σ_258 h0 bg bl bo tx w2 1 := TV.fr g_128 ((k_278).trans ((k_277).trans (k_276))) ((k_281).trans ((k_280).trans (k_279))) ((k_284).trans ((k_283).trans (k_282))) (k_268) (by rw [k_266, k_131]; omega) (by omega)
          have TW_275n := TW_275.2.2.2
          have k_285 : σ_123 h0 11 = tx := (FR.at fσ_123 th0 (by decide)).trans k_122
          have k_286 : σ_138 h0 11 = tx := (FR.at fσ_138 th0 (by decide)).trans k_285
          have k_287 : σ_156 h0 11 = tx := (FR.at fσ_156 th0 (by decide)).trans k_286
          have k_288 : σ_258 h0 11 = tx := (FR.at fσ_258 th0 (by decide)).trans k_287
          refine t_cv (va_runV (As := [.int x_274]) (rest := []) ⟨hx, hb, hml, hown, hts⟩ (cz_X12_settles l D cA L T r hG hLA.1 σ_258 ρ_273 hB.2.1 _ h0 mh0 th0 x_274 bg hbg mbg tbg bl hbl mbl tbl bo hbo mbo tbo tx k_288 (by first | omega | decide) (by first | omega | decide) w2 TW_275 (by first | omega | decide)) (cV hts mv_X12_settles mw_7_35 rfl rfl ⟨Nat.le_of_ble_eq_true rfl, Nat.le_of_ble_eq_true rfl⟩) (pV hB.1 hK hN mh0 th0 (show shp cA 12 _ _ _ = .inr (12, Fs12 _ _ _) from rfl) rfl) rfl rfl hl.1 rfl (lv_room (Nat.le_of_ble_eq_true rfl)) dX12_tested_86 ⟨Nat.le_of_ble_eq_true rfl, Nat.le_of_ble_eq_true rfl⟩) hLA hA hB hS (by decide) (fun σ_289 ρ_290 H locs hB fσ_289 pσ_289 hS => ?_)
          obtain ⟨g_292, g_293, g_294, g_295, g_296, g_297⟩ := pσ_289
          have w_298 : 0 ≤ (σ_289 bl tx.toNatClampNeg).toInt ∧ (σ_289 bl tx.toNatClampNeg).toInt ≤ 400 := by have z := hB.2.1 bl mbl tx.toNatClampNeg; rw [tbl] at z; exact z
          have k_299 : σ_289 h0 8 = (σ_258 h0 8) := (FR.at fσ_289 th0 (by decide)).trans rfl
          have k_300 : σ_289 h0 12 = (σ_107 h0 12) := (FR.at fσ_289 th0 (by decide)).trans k_266
          have k_301 := FR.row fσ_138 tbg (fun j => by simp)
          have k_302 := FR.row fσ_156 tbg (fun j => by simp)
          have k_303 := FR.row fσ_258 tbg (fun j => by simp)
          have k_304 := FR.row fσ_138 tbl (fun j => by simp)
          have k_305 := FR.row fσ_156 tbl (fun j => by simp)
          have k_306 := FR.row fσ_258 tbl (fun j => by simp)
          have ex_307 : EX (σ bg) (σ bl) (σ_258 bg) (σ_258 bl) tx := by rw [((k_303).trans ((k_302).trans (k_301))), ((k_306).trans ((k_305).trans (k_304)))]; exact ex_132
          have ex_308 := EX.tr ex_307 g_292
          have w_309 : 0 ≤ (σ_289 h0 16).toInt ∧ (σ_289 h0 16).toInt ≤ 400 := by have z := hB.2.1 h0 mh0 16; rw [th0] at z; exact z
          have tn_310 := g_293.2.2.2
          have cq_311 : (σ_289 h0 8).toInt = (σ_258 h0 8).toInt := congrArg Int32.toInt k_299
          have k_312 : σ_289 h0 1 = (σ h0 1) := (FR.at fσ_289 th0 (by decide)).trans k_264
          have cq_313 : (σ_289 h0 1).toInt = (σ h0 1).toInt := congrArg Int32.toInt k_312
          have cq_314 : (σ_289 h0 12).toInt = (σ_107 h0 12).toInt := congrArg Int32.toInt k_300
          clear g_297 g_295
          refine lv_aload_n hx hb dX12_tested_89 rfl (lv_at hl 2 rfl) ?_
          refine t_gk hx hb hts hown hK hB mh0 th0 fq_12_15 hbo mw_5_231 dX12_tested_90 ?_
          refine lv_aload_n hx hb dX12_tested_93 rfl (lv_at hl 2 rfl) ?_
          refine t_gv hx hb hts hown hK hB mh0 th0 fi_12_16 rfl mw_5_232 dX12_tested_94 ?_
          refine lv_iload_n hx hb dX12_tested_97 rfl (lv_at hl 0 rfl) ?_
          refine t_si hx hb hK hLA hB hS mbo tbo ai_67 (i_in (by omega) (by omega)) (i_lo _) (i_hi _) (Or.inr (by decide)) dX12_tested_98 (fun H locs σ_315 eσ_315 hB hS => ?_)
          have k_316 : σ_315 bo (σ_289 h0 16).toNatClampNeg = 12 := by rw [eσ_315]; exact up2_same _ _ _ _
          refine lv_aload_n hx hb dX12_tested_99 rfl (lv_at hl 2 rfl) ?_
          refine lv_dup hx hb dX12_tested_100 rfl ?_
          have k_317 : σ_315 h0 16 = (σ_289 h0 16) := by rw [eσ_315, up2_nea _ _ (tg_ne th0 tbo (by decide))]
          refine t_gv hx hb hts hown hK hB mh0 th0 fi_12_16 k_317 mw_5_232 dX12_tested_101 ?_
          refine lv_iconst (v := 1) hx hb dX12_tested_104 (by decide) ?_
          refine lv_iadd hx hb dX12_tested_105 ?_
          refine lv_topi (fun x_318 ex_318 => ?_)
          have vx_318 := b_add (rfl : (σ_289 h0 16).toInt = _) (by decide : (1 : Int32).toInt = 1) ex_318 (by omega) (by omega)
          refine t_pi hx hb hts hown hK hLA hB hS mh0 th0 fi_12_16 rfl rfl rfl (by first | omega | (subst_vars; omega)) (by first | omega | (subst_vars; omega)) (Or.inl (by decide)) mw_5_232 dX12_tested_106 (fun H locs σ_319 eσ_319 hB hS => ?_)
          have k_320 : σ_319 h0 16 = x_318 := by rw [eσ_319]; exact up2_same _ _ _ _
          have hc9 : (σ_289 h0 16).toNatClampNeg = (σ_289 h0 16).toInt.toNat := rfl
          have k_321a := congrFun eσ_315 bg
          rw [up2_row _ _ (tg_ne tbg tbo (by decide))] at k_321a
          have k_322a := congrFun eσ_319 bg
          rw [up2_row _ _ (tg_ne tbg th0 (by decide))] at k_322a
          have k_323a := congrFun eσ_315 bl
          rw [up2_row _ _ (tg_ne tbl tbo (by decide))] at k_323a
          have k_324a := congrFun eσ_319 bl
          rw [up2_row _ _ (tg_ne tbl th0 (by decide))] at k_324a
          have k_325a := congrFun eσ_319 bo
          rw [up2_row _ _ (tg_ne tbo th0 (by decide))] at k_325a
          have k_326 : σ_315 h0 12 = (σ_107 h0 12) := by rw [eσ_315, up2_nea _ _ (tg_ne th0 tbo (by decide))]; exact k_300
          have k_327 : σ_319 h0 12 = (σ_107 h0 12) := by rw [eσ_319, up2_nej _ _ (by decide)]; exact k_326
          have k_328 : σ_315 h0 8 = (σ_258 h0 8) := by rw [eσ_315, up2_nea _ _ (tg_ne th0 tbo (by decide))]; exact k_299
          have k_329 : σ_319 h0 8 = (σ_258 h0 8) := by rw [eσ_319, up2_nej _ _ (by decide)]; exact k_328
          have TJ1 : TV σ_319 h0 bg bl bo tx w2 0 := TV.jn (w := 12) g_293 (by decide) (by omega) ((k_322a).trans (k_321a)) ((k_324a).trans (k_323a)) (fun j => by rw [(k_325a), eσ_315, up2_if, hc9]) (by rw [k_320]; omega) (by rw [k_327]; omega) (by rw [k_329]; omega)
          refine lv_goto (tgt := 12) hx hb dX12_tested_109 (by decide) ?_
          have k_330 : σ_289 h0 11 = tx := (FR.at fσ_289 th0 (by decide)).trans k_288
          have k_331 : σ_315 h0 11 = tx := by rw [eσ_315, up2_nea _ _ (tg_ne th0 tbo (by decide))]; exact k_330
          have k_332 : σ_319 h0 11 = tx := by rw [eσ_319, up2_nej _ _ (by decide)]; exact k_331
          have k_333 : σ_315 h0 1 = (σ h0 1) := by rw [eσ_315, up2_nea _ _ (tg_ne th0 tbo (by decide))]; exact k_312
          have k_334 : σ_319 h0 1 = (σ h0 1) := by rw [eσ_319, up2_nej _ _ (by decide)]; exact k_333
          have k_335a := congrFun eσ_315 bg
          rw [up2_row _ _ (tg_ne tbg tbo (by decide))] at k_335a
          have k_336a := congrFun eσ_319 bg
          rw [up2_row _ _ (tg_ne tbg th0 (by decide))] at k_336a
          have k_337a := congrFun eσ_315 bl
          rw [up2_row _ _ (tg_ne tbl tbo (by decide))] at k_337a
          have k_338a := congrFun eσ_319 bl
          rw [up2_row _ _ (tg_ne tbl th0 (by decide))] at k_338a
          have ex_339 : EX (σ bg) (σ bl) (σ_319 bg) (σ_319 bl) tx := by rw [((k_336a).trans (k_335a)), ((k_338a).trans (k_337a))]; exact ex_308
          exact ih_28 ⟨1, σ_319, ρ_290⟩ _ _ _ ⟨(by decide), (by decide), k_332, k_334, ex_339, ⟨fun _ => TJ1, fun h => absurd h (by decide)⟩, (by rw [k_329]; omega), hB, hS, lv_sub hl [1, 2] rfl⟩ (by show (2 * (400 - (σ_319 h0 8).toInt) + (1 : Int32).toInt).toNat < (2 * (400 - (σ_26 h0 8).toInt) + (i_25 : Int32).toInt).toNat; rw [k_329]; have z1 : (1 : Int32).toInt = 1 := (by decide); have z0 : (0 : Int32).toInt = 0 := (by decide); omega)
      · skip
        have uc_154 := i_eq (n := 0) (by decide) c_154
        clear g_143 g_144
        refine lv_aload_n hx hb dX12_tested_39 rfl (lv_at hl 1 rfl) ?_
        refine lv_ldc2 (v := 28530) hx hb hown (hts _ mw_7_47) dX12_tested_40 ?_
        refine t_ci (va_runV (As := [.long 28530]) (rest := []) ⟨hx, hb, hml, hown, hts⟩ (cz_X12_isWord l D cA L T r hG hLA.1 σ_138 ρ_139 hB.2.1 _ h0 mh0 th0 28530 bt hbt mbt tbt) (cV hts mv_X12_isWord mw_6_143 rfl rfl ⟨Nat.le_of_ble_eq_true rfl, Nat.le_of_ble_eq_true rfl⟩) (pV hB.1 hK hN mh0 th0 (show shp cA 12 _ _ _ = .inr (12, Fs12 _ _ _) from rfl) rfl) rfl rfl hl.1 rfl (lv_room (Nat.le_of_ble_eq_true rfl)) dX12_tested_43 ⟨Nat.le_of_ble_eq_true rfl, Nat.le_of_ble_eq_true rfl⟩) hLA hA hB hS (by decide) (fun x_342 σ_340 ρ_341 H locs hB fσ_340 pσ_340 hS => ?_)
        obtain ⟨g_343, g_344, g_345, g_346⟩ := pσ_340
        have w_347 : 0 ≤ (σ_340 h0 8).toInt ∧ (σ_340 h0 8).toInt ≤ 400 := by have z := hB.2.1 h0 mh0 8; rw [th0] at z; exact z
        obtain ⟨lx_342, ux_342⟩ := g_343
        have k_348 : σ_340 h0 1 = (σ h0 1) := (FR.at fσ_340 th0 (by decide)).trans k_146
        have cq_349 : (σ_340 h0 1).toInt = (σ h0 1).toInt := congrArg Int32.toInt k_348
        have k_350 : σ_340 h0 12 = (σ_107 h0 12) := (FR.at fσ_340 th0 (by decide)).trans k_148
        have cq_351 : (σ_340 h0 12).toInt = (σ_107 h0 12).toInt := congrArg Int32.toInt k_350
        have k_352 : σ_340 h0 16 = (σ_123 h0 16) := (FR.at fσ_340 th0 (by decide)).trans k_150
        have cq_353 : (σ_340 h0 16).toInt = (σ_123 h0 16).toInt := congrArg Int32.toInt k_352
        have k_354 : σ_340 bl tx.toNatClampNeg = (σ_123 bl tx.toNatClampNeg) := (FR.at fσ_340 tbl (by simp)).trans k_152
        have cq_355 : (σ_340 bl tx.toNatClampNeg).toInt = (σ_123 bl tx.toNatClampNeg).toInt := congrArg Int32.toInt k_354
        refine lv_if_eq (tgt := 53) hx hb dX12_tested_46 (by decide) (fun c_356 => ?_) (fun c_356 => ?_)
        · skip
          have uc_356 := i_eq (n := 0) (by decide) c_356
          clear g_345 g_346
          refine lv_iconst (v := 0) hx hb dX12_tested_53 (by decide) ?_
          refine lv_istore_n (lv' := [(1, .int 0), (0, .ref h0)]) hx hb dX12_tested_54 rfl hl (by decide) rfl (fun ls hl => ?_)
          refine lv_iload_n hx hb dX12_tested_55 rfl (lv_at hl 0 rfl) ?_
          refine lv_if_eq (tgt := 12) hx hb dX12_tested_56 (by decide) (fun _ => ?_) (fun c9 => absurd (by decide) c9)
          have k_357 : σ_123 h0 11 = tx := (FR.at fσ_123 th0 (by decide)).trans k_122
          have k_358 : σ_138 h0 11 = tx := (FR.at fσ_138 th0 (by decide)).trans k_357
          have k_359 : σ_340 h0 11 = tx := (FR.at fσ_340 th0 (by decide)).trans k_358
          have k_360 := FR.row fσ_138 tbg (fun j => by simp)
          have k_361 := FR.row fσ_340 tbg (fun j => by simp)
          have k_362 := FR.row fσ_138 tbl (fun j => by simp)
          have k_363 := FR.row fσ_340 tbl (fun j => by simp)
          have ex_364 : EX (σ bg) (σ bl) (σ_340 bg) (σ_340 bl) tx := by rw [((k_361).trans (k_360)), ((k_363).trans (k_362))]; exact ex_132
          have k_366 := FR.row fσ_138 tbg (fun j => by simp)
          have k_367 := FR.row fσ_340 tbg (fun j => by simp)
          have k_368 := FR.row fσ_138 tbl (fun j => by simp)
          have k_369 := FR.row fσ_340 tbl (fun j => by simp)
          have k_370 := FR.row fσ_138 tbo (fun j => by simp)
          have k_371 := FR.row fσ_340 tbo (fun j => by simp)
          have TW_365 : TV σ_340 h0 bg bl bo tx w2 1 := TV.fr g_128 ((k_367).trans (k_366)) ((k_369).trans (k_368)) ((k_371).trans (k_370)) (k_352) (by rw [k_350, k_131]; omega) (by omega)
          have TW_365n := TW_365.2.2.2
          exact ih_28 ⟨0, σ_340, ρ_341⟩ _ _ _ ⟨(by decide), (by decide), k_359, k_348, ex_364, ⟨fun h => absurd h (by decide), fun _ => TW_365⟩, (by omega), hB, hS, lv_sub hl [0, 1] rfl⟩ (by show (2 * (400 - (σ_340 h0 8).toInt) + (0 : Int32).toInt).toNat < (2 * (400 - (σ_26 h0 8).toInt) + (i_25 : Int32).toInt).toNat; have z1 : (1 : Int32).toInt = 1 := (by decide); have z0 : (0 : Int32).toInt = 0 := (by decide); omega)
        · skip
          have uc_356 := i_ne (n := 0) (by decide) c_356
          obtain ⟨lw_372a, lw_372b, lw_372c⟩ := g_345 (by omega)
          clear g_345 g_346
          refine lv_iconst (v := 1) hx hb dX12_tested_49 (by decide) ?_
          refine lv_goto (tgt := 54) hx hb dX12_tested_50 (by decide) ?_
          refine lv_istore_n (lv' := [(1, .int 1), (0, .ref h0)]) hx hb dX12_tested_54 rfl hl (by decide) rfl (fun ls hl => ?_)
          refine lv_iload_n hx hb dX12_tested_55 rfl (lv_at hl 0 rfl) ?_
          refine lv_if_eq (tgt := 12) hx hb dX12_tested_56 (by decide) (fun c9 => absurd c9 (by decide)) (fun _ => ?_)
          refine lv_aload_n hx hb dX12_tested_59 rfl (lv_at hl 1 rfl) ?_
          refine lv_ldc2 (v := 6385252) hx hb hown (hts _ mw_7_46) dX12_tested_60 ?_
          refine t_ci (va_runV (As := [.long 6385252]) (rest := []) ⟨hx, hb, hml, hown, hts⟩ (cz_X12_isWord l D cA L T r hG hLA.1 σ_340 ρ_341 hB.2.1 _ h0 mh0 th0 6385252 bt hbt mbt tbt) (cV hts mv_X12_isWord mw_6_143 rfl rfl ⟨Nat.le_of_ble_eq_true rfl, Nat.le_of_ble_eq_true rfl⟩) (pV hB.1 hK hN mh0 th0 (show shp cA 12 _ _ _ = .inr (12, Fs12 _ _ _) from rfl) rfl) rfl rfl hl.1 rfl (lv_room (Nat.le_of_ble_eq_true rfl)) dX12_tested_63 ⟨Nat.le_of_ble_eq_true rfl, Nat.le_of_ble_eq_true rfl⟩) hLA hA hB hS (by decide) (fun x_375 σ_373 ρ_374 H locs hB fσ_373 pσ_373 hS => ?_)
          obtain ⟨g_376, g_377, g_378, g_379⟩ := pσ_373
          have w_380 : 0 ≤ (σ_373 h0 8).toInt ∧ (σ_373 h0 8).toInt ≤ 400 := by have z := hB.2.1 h0 mh0 8; rw [th0] at z; exact z
          obtain ⟨lx_375, ux_375⟩ := g_376
          have k_381 : σ_373 h0 1 = (σ h0 1) := (FR.at fσ_373 th0 (by decide)).trans k_348
          have cq_382 : (σ_373 h0 1).toInt = (σ h0 1).toInt := congrArg Int32.toInt k_381
          have k_383 : σ_373 h0 12 = (σ_107 h0 12) := (FR.at fσ_373 th0 (by decide)).trans k_350
          have cq_384 : (σ_373 h0 12).toInt = (σ_107 h0 12).toInt := congrArg Int32.toInt k_383
          have k_385 : σ_373 h0 16 = (σ_123 h0 16) := (FR.at fσ_373 th0 (by decide)).trans k_352
          have cq_386 : (σ_373 h0 16).toInt = (σ_123 h0 16).toInt := congrArg Int32.toInt k_385
          have k_387 : σ_373 bl tx.toNatClampNeg = (σ_123 bl tx.toNatClampNeg) := (FR.at fσ_373 tbl (by simp)).trans k_354
          have cq_388 : (σ_373 bl tx.toNatClampNeg).toInt = (σ_123 bl tx.toNatClampNeg).toInt := congrArg Int32.toInt k_387
          have le_389 := g_379 ⟨by omega, by omega⟩
          clear g_378 g_379
          refine lv_if_eq (tgt := 74) hx hb dX12_tested_66 (by decide) (fun c_390 => ?_) (fun c_390 => ?_)
          · skip
            have uc_390 := i_eq (n := 0) (by decide) c_390
            refine lv_bipush (v := 13) hx hb dX12_tested_74 (by decide) ?_
            refine lv_istore_n (lv' := [(2, .int 13), (1, .int 1), (0, .ref h0)]) hx hb dX12_tested_76 rfl hl (by decide) rfl (fun ls hl => ?_)
            refine lv_aload_n hx hb dX12_tested_77 rfl (lv_at hl 2 rfl) ?_
            have k_391 := FR.row fσ_373 tbt (fun j => by simp)
            have lt78 : (σ_373 bt (σ_373 h0 8).toNatClampNeg).toInt = (σ_340 bt (σ_340 h0 8).toNatClampNeg).toInt := by rw [(k_391)]; exact nb_c (by omega)
            refine t_cv (va_runV (As := []) (rest := []) ⟨hx, hb, hml, hown, hts⟩ (cz_X12_passWord l D cA L T r hG hLA.1 σ_373 ρ_374 hB.2.1 _ h0 mh0 th0 bt hbt mbt tbt) (cV hts mv_X12_passWord mw_6_169 rfl rfl ⟨Nat.le_of_ble_eq_true rfl, Nat.le_of_ble_eq_true rfl⟩) (pV hB.1 hK hN mh0 th0 (show shp cA 12 _ _ _ = .inr (12, Fs12 _ _ _) from rfl) rfl) rfl rfl hl.1 rfl (lv_room (Nat.le_of_ble_eq_true rfl)) dX12_tested_78 ⟨Nat.le_of_ble_eq_true rfl, Nat.le_of_ble_eq_true rfl⟩) hLA hA hB hS (by decide) (fun σ_392 ρ_393 H locs hB fσ_392 pσ_392 hS => ?_)
            obtain ⟨g_395, g_396⟩ := pσ_392
            have w_397 : 0 ≤ (σ_392 h0 8).toInt ∧ (σ_392 h0 8).toInt ≤ 400 := by have z := hB.2.1 h0 mh0 8; rw [th0] at z; exact z
            have k_398 : σ_392 h0 1 = (σ h0 1) := (FR.at fσ_392 th0 (by decide)).trans k_381
            have cq_399 : (σ_392 h0 1).toInt = (σ h0 1).toInt := congrArg Int32.toInt k_398
            have k_400 : σ_392 h0 12 = (σ_107 h0 12) := (FR.at fσ_392 th0 (by decide)).trans k_383
            have cq_401 : (σ_392 h0 12).toInt = (σ_107 h0 12).toInt := congrArg Int32.toInt k_400
            have k_402 : σ_392 h0 16 = (σ_123 h0 16) := (FR.at fσ_392 th0 (by decide)).trans k_385
            have cq_403 : (σ_392 h0 16).toInt = (σ_123 h0 16).toInt := congrArg Int32.toInt k_402
            have k_404 : σ_392 bl tx.toNatClampNeg = (σ_123 bl tx.toNatClampNeg) := (FR.at fσ_392 tbl (by simp)).trans k_387
            have cq_405 : (σ_392 bl tx.toNatClampNeg).toInt = (σ_123 bl tx.toNatClampNeg).toInt := congrArg Int32.toInt k_404
            refine lv_aload_n hx hb dX12_tested_81 rfl (lv_at hl 2 rfl) ?_
            refine lv_iload_n hx hb dX12_tested_82 rfl (lv_at hl 0 rfl) ?_
            have zs83 : (13 : Int32).toInt = 13 := by decide
            refine t_ci (va_runS (As := [.int 13]) (rest := [.ref h0]) ⟨hx, hb, hml, hown, hts⟩ (cz_X12_strength l D cA L T r hG hLA.1 σ_392 ρ_393 hB.2.1 _ 13) (cS hts ms_X12_strength mw_7_39 rfl rfl ⟨Nat.le_of_ble_eq_true rfl, Nat.le_of_ble_eq_true rfl⟩) (pS hB.1 hK hN) rfl rfl hl.1 rfl (lv_room (Nat.le_of_ble_eq_true rfl)) dX12_tested_83 ⟨Nat.le_of_ble_eq_true rfl, Nat.le_of_ble_eq_true rfl⟩) hLA hA hB hS (by decide) (fun x_408 σ_406 ρ_407 H locs hB fσ_406 pσ_406 hS => ?_)
            have qσ_406 := FR.nil fσ_406
            subst qσ_406
            obtain ⟨ax_408, bx_408, cx_408, dx_408, fx_408, ix_408⟩ := pσ_406
            have z86 : 1 ≤ x_408.toInt := by omega
            clear cx_408 dx_408 fx_408 ix_408
            have k_410 := FR.row fσ_138 tbg (fun j => by simp)
            have k_411 := FR.row fσ_340 tbg (fun j => by simp)
            have k_412 := FR.row fσ_373 tbg (fun j => by simp)
            have k_413 := FR.row fσ_392 tbg (fun j => by simp)
            have k_414 := FR.row fσ_138 tbl (fun j => by simp)
            have k_415 := FR.row fσ_340 tbl (fun j => by simp)
            have k_416 := FR.row fσ_373 tbl (fun j => by simp)
            have k_417 := FR.row fσ_392 tbl (fun j => by simp)
            have k_418 := FR.row fσ_138 tbo (fun j => by simp)
            have k_419 := FR.row fσ_340 tbo (fun j => by simp)
            have k_420 := FR.row fσ_373 tbo (fun j => by simp)
            have k_421 := FR.row fσ_392 tbo (fun j => by simp)
            have TW_409 : TV σ_392 h0 bg bl bo tx w2 1 := TV.fr g_128 ((k_413).trans ((k_412).trans ((k_411).trans (k_410)))) ((k_417).trans ((k_416).trans ((k_415).trans (k_414)))) ((k_421).trans ((k_420).trans ((k_419).trans (k_418)))) (k_402) (by rw [k_400, k_131]; omega) (by omega)
            have TW_409n := TW_409.2.2.2
            have k_422 : σ_123 h0 11 = tx := (FR.at fσ_123 th0 (by decide)).trans k_122
            have k_423 : σ_138 h0 11 = tx := (FR.at fσ_138 th0 (by decide)).trans k_422
            have k_424 : σ_340 h0 11 = tx := (FR.at fσ_340 th0 (by decide)).trans k_423
            have k_425 : σ_373 h0 11 = tx := (FR.at fσ_373 th0 (by decide)).trans k_424
            have k_426 : σ_392 h0 11 = tx := (FR.at fσ_392 th0 (by decide)).trans k_425
            refine t_cv (va_runV (As := [.int x_408]) (rest := []) ⟨hx, hb, hml, hown, hts⟩ (cz_X12_settles l D cA L T r hG hLA.1 σ_392 ρ_407 hB.2.1 _ h0 mh0 th0 x_408 bg hbg mbg tbg bl hbl mbl tbl bo hbo mbo tbo tx k_426 (by first | omega | decide) (by first | omega | decide) w2 TW_409 (by first | omega | decide)) (cV hts mv_X12_settles mw_7_35 rfl rfl ⟨Nat.le_of_ble_eq_true rfl, Nat.le_of_ble_eq_true rfl⟩) (pV hB.1 hK hN mh0 th0 (show shp cA 12 _ _ _ = .inr (12, Fs12 _ _ _) from rfl) rfl) rfl rfl hl.1 rfl (lv_room (Nat.le_of_ble_eq_true rfl)) dX12_tested_86 ⟨Nat.le_of_ble_eq_true rfl, Nat.le_of_ble_eq_true rfl⟩) hLA hA hB hS (by decide) (fun σ_427 ρ_428 H locs hB fσ_427 pσ_427 hS => ?_)
            obtain ⟨g_430, g_431, g_432, g_433, g_434, g_435⟩ := pσ_427
            have w_436 : 0 ≤ (σ_427 bl tx.toNatClampNeg).toInt ∧ (σ_427 bl tx.toNatClampNeg).toInt ≤ 400 := by have z := hB.2.1 bl mbl tx.toNatClampNeg; rw [tbl] at z; exact z
            have k_437 : σ_427 h0 8 = (σ_392 h0 8) := (FR.at fσ_427 th0 (by decide)).trans rfl
            have k_438 : σ_427 h0 12 = (σ_107 h0 12) := (FR.at fσ_427 th0 (by decide)).trans k_400
            have k_439 := FR.row fσ_138 tbg (fun j => by simp)
            have k_440 := FR.row fσ_340 tbg (fun j => by simp)
            have k_441 := FR.row fσ_373 tbg (fun j => by simp)
            have k_442 := FR.row fσ_392 tbg (fun j => by simp)
            have k_443 := FR.row fσ_138 tbl (fun j => by simp)
            have k_444 := FR.row fσ_340 tbl (fun j => by simp)
            have k_445 := FR.row fσ_373 tbl (fun j => by simp)
            have k_446 := FR.row fσ_392 tbl (fun j => by simp)
            have ex_447 : EX (σ bg) (σ bl) (σ_392 bg) (σ_392 bl) tx := by rw [((k_442).trans ((k_441).trans ((k_440).trans (k_439)))), ((k_446).trans ((k_445).trans ((k_444).trans (k_443))))]; exact ex_132
            have ex_448 := EX.tr ex_447 g_430
            have w_449 : 0 ≤ (σ_427 h0 16).toInt ∧ (σ_427 h0 16).toInt ≤ 400 := by have z := hB.2.1 h0 mh0 16; rw [th0] at z; exact z
            have tn_450 := g_431.2.2.2
            have cq_451 : (σ_427 h0 8).toInt = (σ_392 h0 8).toInt := congrArg Int32.toInt k_437
            have k_452 : σ_427 h0 1 = (σ h0 1) := (FR.at fσ_427 th0 (by decide)).trans k_398
            have cq_453 : (σ_427 h0 1).toInt = (σ h0 1).toInt := congrArg Int32.toInt k_452
            have cq_454 : (σ_427 h0 12).toInt = (σ_107 h0 12).toInt := congrArg Int32.toInt k_438
            clear g_435 g_433
            refine lv_aload_n hx hb dX12_tested_89 rfl (lv_at hl 2 rfl) ?_
            refine t_gk hx hb hts hown hK hB mh0 th0 fq_12_15 hbo mw_5_231 dX12_tested_90 ?_
            refine lv_aload_n hx hb dX12_tested_93 rfl (lv_at hl 2 rfl) ?_
            refine t_gv hx hb hts hown hK hB mh0 th0 fi_12_16 rfl mw_5_232 dX12_tested_94 ?_
            refine lv_iload_n hx hb dX12_tested_97 rfl (lv_at hl 0 rfl) ?_
            refine t_si hx hb hK hLA hB hS mbo tbo ai_67 (i_in (by omega) (by omega)) (i_lo _) (i_hi _) (Or.inr (by decide)) dX12_tested_98 (fun H locs σ_455 eσ_455 hB hS => ?_)
            have k_456 : σ_455 bo (σ_427 h0 16).toNatClampNeg = 13 := by rw [eσ_455]; exact up2_same _ _ _ _
            refine lv_aload_n hx hb dX12_tested_99 rfl (lv_at hl 2 rfl) ?_
            refine lv_dup hx hb dX12_tested_100 rfl ?_
            have k_457 : σ_455 h0 16 = (σ_427 h0 16) := by rw [eσ_455, up2_nea _ _ (tg_ne th0 tbo (by decide))]
            refine t_gv hx hb hts hown hK hB mh0 th0 fi_12_16 k_457 mw_5_232 dX12_tested_101 ?_
            refine lv_iconst (v := 1) hx hb dX12_tested_104 (by decide) ?_
            refine lv_iadd hx hb dX12_tested_105 ?_
            refine lv_topi (fun x_458 ex_458 => ?_)
            have vx_458 := b_add (rfl : (σ_427 h0 16).toInt = _) (by decide : (1 : Int32).toInt = 1) ex_458 (by omega) (by omega)
            refine t_pi hx hb hts hown hK hLA hB hS mh0 th0 fi_12_16 rfl rfl rfl (by first | omega | (subst_vars; omega)) (by first | omega | (subst_vars; omega)) (Or.inl (by decide)) mw_5_232 dX12_tested_106 (fun H locs σ_459 eσ_459 hB hS => ?_)
            have k_460 : σ_459 h0 16 = x_458 := by rw [eσ_459]; exact up2_same _ _ _ _
            have hc9 : (σ_427 h0 16).toNatClampNeg = (σ_427 h0 16).toInt.toNat := rfl
            have k_461a := congrFun eσ_455 bg
            rw [up2_row _ _ (tg_ne tbg tbo (by decide))] at k_461a
            have k_462a := congrFun eσ_459 bg
            rw [up2_row _ _ (tg_ne tbg th0 (by decide))] at k_462a
            have k_463a := congrFun eσ_455 bl
            rw [up2_row _ _ (tg_ne tbl tbo (by decide))] at k_463a
            have k_464a := congrFun eσ_459 bl
            rw [up2_row _ _ (tg_ne tbl th0 (by decide))] at k_464a
            have k_465a := congrFun eσ_459 bo
            rw [up2_row _ _ (tg_ne tbo th0 (by decide))] at k_465a
            have k_466 : σ_455 h0 12 = (σ_107 h0 12) := by rw [eσ_455, up2_nea _ _ (tg_ne th0 tbo (by decide))]; exact k_438
            have k_467 : σ_459 h0 12 = (σ_107 h0 12) := by rw [eσ_459, up2_nej _ _ (by decide)]; exact k_466
            have k_468 : σ_455 h0 8 = (σ_392 h0 8) := by rw [eσ_455, up2_nea _ _ (tg_ne th0 tbo (by decide))]; exact k_437
            have k_469 : σ_459 h0 8 = (σ_392 h0 8) := by rw [eσ_459, up2_nej _ _ (by decide)]; exact k_468
            have TJ1 : TV σ_459 h0 bg bl bo tx w2 0 := TV.jn (w := 13) g_431 (by decide) (by omega) ((k_462a).trans (k_461a)) ((k_464a).trans (k_463a)) (fun j => by rw [(k_465a), eσ_455, up2_if, hc9]) (by rw [k_460]; omega) (by rw [k_467]; omega) (by rw [k_469]; omega)
            refine lv_goto (tgt := 12) hx hb dX12_tested_109 (by decide) ?_
            have k_470 : σ_427 h0 11 = tx := (FR.at fσ_427 th0 (by decide)).trans k_426
            have k_471 : σ_455 h0 11 = tx := by rw [eσ_455, up2_nea _ _ (tg_ne th0 tbo (by decide))]; exact k_470
            have k_472 : σ_459 h0 11 = tx := by rw [eσ_459, up2_nej _ _ (by decide)]; exact k_471
            have k_473 : σ_455 h0 1 = (σ h0 1) := by rw [eσ_455, up2_nea _ _ (tg_ne th0 tbo (by decide))]; exact k_452
            have k_474 : σ_459 h0 1 = (σ h0 1) := by rw [eσ_459, up2_nej _ _ (by decide)]; exact k_473
            have k_475a := congrFun eσ_455 bg
            rw [up2_row _ _ (tg_ne tbg tbo (by decide))] at k_475a
            have k_476a := congrFun eσ_459 bg
            rw [up2_row _ _ (tg_ne tbg th0 (by decide))] at k_476a
            have k_477a := congrFun eσ_455 bl
            rw [up2_row _ _ (tg_ne tbl tbo (by decide))] at k_477a
            have k_478a := congrFun eσ_459 bl
            rw [up2_row _ _ (tg_ne tbl th0 (by decide))] at k_478a
            have ex_479 : EX (σ bg) (σ bl) (σ_459 bg) (σ_459 bl) tx := by rw [((k_476a).trans (k_475a)), ((k_478a).trans (k_477a))]; exact ex_448
            exact ih_28 ⟨1, σ_459, ρ_428⟩ _ _ _ ⟨(by decide), (by decide), k_472, k_474, ex_479, ⟨fun _ => TJ1, fun h => absurd h (by decide)⟩, (by rw [k_469]; omega), hB, hS, lv_sub hl [1, 2] rfl⟩ (by show (2 * (400 - (σ_459 h0 8).toInt) + (1 : Int32).toInt).toNat < (2 * (400 - (σ_26 h0 8).toInt) + (i_25 : Int32).toInt).toNat; rw [k_469]; have z1 : (1 : Int32).toInt = 1 := (by decide); have z0 : (0 : Int32).toInt = 0 := (by decide); omega)
          · skip
            have uc_390 := i_ne (n := 0) (by decide) c_390
            refine lv_bipush (v := 12) hx hb dX12_tested_69 (by decide) ?_
            refine lv_goto (tgt := 76) hx hb dX12_tested_71 (by decide) ?_
            refine lv_istore_n (lv' := [(2, .int 12), (1, .int 1), (0, .ref h0)]) hx hb dX12_tested_76 rfl hl (by decide) rfl (fun ls hl => ?_)
            refine lv_aload_n hx hb dX12_tested_77 rfl (lv_at hl 2 rfl) ?_
            have k_480 := FR.row fσ_373 tbt (fun j => by simp)
            have lt78 : (σ_373 bt (σ_373 h0 8).toNatClampNeg).toInt = (σ_340 bt (σ_340 h0 8).toNatClampNeg).toInt := by rw [(k_480)]; exact nb_c (by omega)
            refine t_cv (va_runV (As := []) (rest := []) ⟨hx, hb, hml, hown, hts⟩ (cz_X12_passWord l D cA L T r hG hLA.1 σ_373 ρ_374 hB.2.1 _ h0 mh0 th0 bt hbt mbt tbt) (cV hts mv_X12_passWord mw_6_169 rfl rfl ⟨Nat.le_of_ble_eq_true rfl, Nat.le_of_ble_eq_true rfl⟩) (pV hB.1 hK hN mh0 th0 (show shp cA 12 _ _ _ = .inr (12, Fs12 _ _ _) from rfl) rfl) rfl rfl hl.1 rfl (lv_room (Nat.le_of_ble_eq_true rfl)) dX12_tested_78 ⟨Nat.le_of_ble_eq_true rfl, Nat.le_of_ble_eq_true rfl⟩) hLA hA hB hS (by decide) (fun σ_481 ρ_482 H locs hB fσ_481 pσ_481 hS => ?_)
            obtain ⟨g_484, g_485⟩ := pσ_481
            have w_486 : 0 ≤ (σ_481 h0 8).toInt ∧ (σ_481 h0 8).toInt ≤ 400 := by have z := hB.2.1 h0 mh0 8; rw [th0] at z; exact z
            have k_487 : σ_481 h0 1 = (σ h0 1) := (FR.at fσ_481 th0 (by decide)).trans k_381
            have cq_488 : (σ_481 h0 1).toInt = (σ h0 1).toInt := congrArg Int32.toInt k_487
            have k_489 : σ_481 h0 12 = (σ_107 h0 12) := (FR.at fσ_481 th0 (by decide)).trans k_383
            have cq_490 : (σ_481 h0 12).toInt = (σ_107 h0 12).toInt := congrArg Int32.toInt k_489
            have k_491 : σ_481 h0 16 = (σ_123 h0 16) := (FR.at fσ_481 th0 (by decide)).trans k_385
            have cq_492 : (σ_481 h0 16).toInt = (σ_123 h0 16).toInt := congrArg Int32.toInt k_491
            have k_493 : σ_481 bl tx.toNatClampNeg = (σ_123 bl tx.toNatClampNeg) := (FR.at fσ_481 tbl (by simp)).trans k_387
            have cq_494 : (σ_481 bl tx.toNatClampNeg).toInt = (σ_123 bl tx.toNatClampNeg).toInt := congrArg Int32.toInt k_493
            refine lv_aload_n hx hb dX12_tested_81 rfl (lv_at hl 2 rfl) ?_
            refine lv_iload_n hx hb dX12_tested_82 rfl (lv_at hl 0 rfl) ?_
            have zs83 : (12 : Int32).toInt = 12 := by decide
            refine t_ci (va_runS (As := [.int 12]) (rest := [.ref h0]) ⟨hx, hb, hml, hown, hts⟩ (cz_X12_strength l D cA L T r hG hLA.1 σ_481 ρ_482 hB.2.1 _ 12) (cS hts ms_X12_strength mw_7_39 rfl rfl ⟨Nat.le_of_ble_eq_true rfl, Nat.le_of_ble_eq_true rfl⟩) (pS hB.1 hK hN) rfl rfl hl.1 rfl (lv_room (Nat.le_of_ble_eq_true rfl)) dX12_tested_83 ⟨Nat.le_of_ble_eq_true rfl, Nat.le_of_ble_eq_true rfl⟩) hLA hA hB hS (by decide) (fun x_497 σ_495 ρ_496 H locs hB fσ_495 pσ_495 hS => ?_)
            have qσ_495 := FR.nil fσ_495
            subst qσ_495
            obtain ⟨ax_497, bx_497, cx_497, dx_497, fx_497, ix_497⟩ := pσ_495
            have z86 : 1 ≤ x_497.toInt := by omega
            clear cx_497 dx_497 fx_497 ix_497
            have k_499 := FR.row fσ_138 tbg (fun j => by simp)
            have k_500 := FR.row fσ_340 tbg (fun j => by simp)
            have k_501 := FR.row fσ_373 tbg (fun j => by simp)
            have k_502 := FR.row fσ_481 tbg (fun j => by simp)
            have k_503 := FR.row fσ_138 tbl (fun j => by simp)
            have k_504 := FR.row fσ_340 tbl (fun j => by simp)
            have k_505 := FR.row fσ_373 tbl (fun j => by simp)
            have k_506 := FR.row fσ_481 tbl (fun j => by simp)
            have k_507 := FR.row fσ_138 tbo (fun j => by simp)
            have k_508 := FR.row fσ_340 tbo (fun j => by simp)
            have k_509 := FR.row fσ_373 tbo (fun j => by simp)
            have k_510 := FR.row fσ_481 tbo (fun j => by simp)
            have TW_498 : TV σ_481 h0 bg bl bo tx w2 1 := TV.fr g_128 ((k_502).trans ((k_501).trans ((k_500).trans (k_499)))) ((k_506).trans ((k_505).trans ((k_504).trans (k_503)))) ((k_510).trans ((k_509).trans ((k_508).trans (k_507)))) (k_491) (by rw [k_489, k_131]; omega) (by omega)
            have TW_498n := TW_498.2.2.2
            have k_511 : σ_123 h0 11 = tx := (FR.at fσ_123 th0 (by decide)).trans k_122
            have k_512 : σ_138 h0 11 = tx := (FR.at fσ_138 th0 (by decide)).trans k_511
            have k_513 : σ_340 h0 11 = tx := (FR.at fσ_340 th0 (by decide)).trans k_512
            have k_514 : σ_373 h0 11 = tx := (FR.at fσ_373 th0 (by decide)).trans k_513
            have k_515 : σ_481 h0 11 = tx := (FR.at fσ_481 th0 (by decide)).trans k_514
            refine t_cv (va_runV (As := [.int x_497]) (rest := []) ⟨hx, hb, hml, hown, hts⟩ (cz_X12_settles l D cA L T r hG hLA.1 σ_481 ρ_496 hB.2.1 _ h0 mh0 th0 x_497 bg hbg mbg tbg bl hbl mbl tbl bo hbo mbo tbo tx k_515 (by first | omega | decide) (by first | omega | decide) w2 TW_498 (by first | omega | decide)) (cV hts mv_X12_settles mw_7_35 rfl rfl ⟨Nat.le_of_ble_eq_true rfl, Nat.le_of_ble_eq_true rfl⟩) (pV hB.1 hK hN mh0 th0 (show shp cA 12 _ _ _ = .inr (12, Fs12 _ _ _) from rfl) rfl) rfl rfl hl.1 rfl (lv_room (Nat.le_of_ble_eq_true rfl)) dX12_tested_86 ⟨Nat.le_of_ble_eq_true rfl, Nat.le_of_ble_eq_true rfl⟩) hLA hA hB hS (by decide) (fun σ_516 ρ_517 H locs hB fσ_516 pσ_516 hS => ?_)
            obtain ⟨g_519, g_520, g_521, g_522, g_523, g_524⟩ := pσ_516
            have w_525 : 0 ≤ (σ_516 bl tx.toNatClampNeg).toInt ∧ (σ_516 bl tx.toNatClampNeg).toInt ≤ 400 := by have z := hB.2.1 bl mbl tx.toNatClampNeg; rw [tbl] at z; exact z
            have k_526 : σ_516 h0 8 = (σ_481 h0 8) := (FR.at fσ_516 th0 (by decide)).trans rfl
            have k_527 : σ_516 h0 12 = (σ_107 h0 12) := (FR.at fσ_516 th0 (by decide)).trans k_489
            have k_528 := FR.row fσ_138 tbg (fun j => by simp)
            have k_529 := FR.row fσ_340 tbg (fun j => by simp)
            have k_530 := FR.row fσ_373 tbg (fun j => by simp)
            have k_531 := FR.row fσ_481 tbg (fun j => by simp)
            have k_532 := FR.row fσ_138 tbl (fun j => by simp)
            have k_533 := FR.row fσ_340 tbl (fun j => by simp)
            have k_534 := FR.row fσ_373 tbl (fun j => by simp)
            have k_535 := FR.row fσ_481 tbl (fun j => by simp)
            have ex_536 : EX (σ bg) (σ bl) (σ_481 bg) (σ_481 bl) tx := by rw [((k_531).trans ((k_530).trans ((k_529).trans (k_528)))), ((k_535).trans ((k_534).trans ((k_533).trans (k_532))))]; exact ex_132
            have ex_537 := EX.tr ex_536 g_519
            have w_538 : 0 ≤ (σ_516 h0 16).toInt ∧ (σ_516 h0 16).toInt ≤ 400 := by have z := hB.2.1 h0 mh0 16; rw [th0] at z; exact z
            have tn_539 := g_520.2.2.2
            have cq_540 : (σ_516 h0 8).toInt = (σ_481 h0 8).toInt := congrArg Int32.toInt k_526
            have k_541 : σ_516 h0 1 = (σ h0 1) := (FR.at fσ_516 th0 (by decide)).trans k_487
            have cq_542 : (σ_516 h0 1).toInt = (σ h0 1).toInt := congrArg Int32.toInt k_541
            have cq_543 : (σ_516 h0 12).toInt = (σ_107 h0 12).toInt := congrArg Int32.toInt k_527
            clear g_524 g_522
            refine lv_aload_n hx hb dX12_tested_89 rfl (lv_at hl 2 rfl) ?_
            refine t_gk hx hb hts hown hK hB mh0 th0 fq_12_15 hbo mw_5_231 dX12_tested_90 ?_
            refine lv_aload_n hx hb dX12_tested_93 rfl (lv_at hl 2 rfl) ?_
            refine t_gv hx hb hts hown hK hB mh0 th0 fi_12_16 rfl mw_5_232 dX12_tested_94 ?_
            refine lv_iload_n hx hb dX12_tested_97 rfl (lv_at hl 0 rfl) ?_
            refine t_si hx hb hK hLA hB hS mbo tbo ai_67 (i_in (by omega) (by omega)) (i_lo _) (i_hi _) (Or.inr (by decide)) dX12_tested_98 (fun H locs σ_544 eσ_544 hB hS => ?_)
            have k_545 : σ_544 bo (σ_516 h0 16).toNatClampNeg = 12 := by rw [eσ_544]; exact up2_same _ _ _ _
            refine lv_aload_n hx hb dX12_tested_99 rfl (lv_at hl 2 rfl) ?_
            refine lv_dup hx hb dX12_tested_100 rfl ?_
            have k_546 : σ_544 h0 16 = (σ_516 h0 16) := by rw [eσ_544, up2_nea _ _ (tg_ne th0 tbo (by decide))]
            refine t_gv hx hb hts hown hK hB mh0 th0 fi_12_16 k_546 mw_5_232 dX12_tested_101 ?_
            refine lv_iconst (v := 1) hx hb dX12_tested_104 (by decide) ?_
            refine lv_iadd hx hb dX12_tested_105 ?_
            refine lv_topi (fun x_547 ex_547 => ?_)
            have vx_547 := b_add (rfl : (σ_516 h0 16).toInt = _) (by decide : (1 : Int32).toInt = 1) ex_547 (by omega) (by omega)
            refine t_pi hx hb hts hown hK hLA hB hS mh0 th0 fi_12_16 rfl rfl rfl (by first | omega | (subst_vars; omega)) (by first | omega | (subst_vars; omega)) (Or.inl (by decide)) mw_5_232 dX12_tested_106 (fun H locs σ_548 eσ_548 hB hS => ?_)
            have k_549 : σ_548 h0 16 = x_547 := by rw [eσ_548]; exact up2_same _ _ _ _
            have hc9 : (σ_516 h0 16).toNatClampNeg = (σ_516 h0 16).toInt.toNat := rfl
            have k_550a := congrFun eσ_544 bg
            rw [up2_row _ _ (tg_ne tbg tbo (by decide))] at k_550a
            have k_551a := congrFun eσ_548 bg
            rw [up2_row _ _ (tg_ne tbg th0 (by decide))] at k_551a
            have k_552a := congrFun eσ_544 bl
            rw [up2_row _ _ (tg_ne tbl tbo (by decide))] at k_552a
            have k_553a := congrFun eσ_548 bl
            rw [up2_row _ _ (tg_ne tbl th0 (by decide))] at k_553a
            have k_554a := congrFun eσ_548 bo
            rw [up2_row _ _ (tg_ne tbo th0 (by decide))] at k_554a
            have k_555 : σ_544 h0 12 = (σ_107 h0 12) := by rw [eσ_544, up2_nea _ _ (tg_ne th0 tbo (by decide))]; exact k_527
            have k_556 : σ_548 h0 12 = (σ_107 h0 12) := by rw [eσ_548, up2_nej _ _ (by decide)]; exact k_555
            have k_557 : σ_544 h0 8 = (σ_481 h0 8) := by rw [eσ_544, up2_nea _ _ (tg_ne th0 tbo (by decide))]; exact k_526
            have k_558 : σ_548 h0 8 = (σ_481 h0 8) := by rw [eσ_548, up2_nej _ _ (by decide)]; exact k_557
            have TJ1 : TV σ_548 h0 bg bl bo tx w2 0 := TV.jn (w := 12) g_520 (by decide) (by omega) ((k_551a).trans (k_550a)) ((k_553a).trans (k_552a)) (fun j => by rw [(k_554a), eσ_544, up2_if, hc9]) (by rw [k_549]; omega) (by rw [k_556]; omega) (by rw [k_558]; omega)
            refine lv_goto (tgt := 12) hx hb dX12_tested_109 (by decide) ?_
            have k_559 : σ_516 h0 11 = tx := (FR.at fσ_516 th0 (by decide)).trans k_515
            have k_560 : σ_544 h0 11 = tx := by rw [eσ_544, up2_nea _ _ (tg_ne th0 tbo (by decide))]; exact k_559
            have k_561 : σ_548 h0 11 = tx := by rw [eσ_548, up2_nej _ _ (by decide)]; exact k_560
            have k_562 : σ_544 h0 1 = (σ h0 1) := by rw [eσ_544, up2_nea _ _ (tg_ne th0 tbo (by decide))]; exact k_541
            have k_563 : σ_548 h0 1 = (σ h0 1) := by rw [eσ_548, up2_nej _ _ (by decide)]; exact k_562
            have k_564a := congrFun eσ_544 bg
            rw [up2_row _ _ (tg_ne tbg tbo (by decide))] at k_564a
            have k_565a := congrFun eσ_548 bg
            rw [up2_row _ _ (tg_ne tbg th0 (by decide))] at k_565a
            have k_566a := congrFun eσ_544 bl
            rw [up2_row _ _ (tg_ne tbl tbo (by decide))] at k_566a
            have k_567a := congrFun eσ_548 bl
            rw [up2_row _ _ (tg_ne tbl th0 (by decide))] at k_567a
            have ex_568 : EX (σ bg) (σ bl) (σ_548 bg) (σ_548 bl) tx := by rw [((k_565a).trans (k_564a)), ((k_567a).trans (k_566a))]; exact ex_537
            exact ih_28 ⟨1, σ_548, ρ_517⟩ _ _ _ ⟨(by decide), (by decide), k_561, k_563, ex_568, ⟨fun _ => TJ1, fun h => absurd h (by decide)⟩, (by rw [k_558]; omega), hB, hS, lv_sub hl [1, 2] rfl⟩ (by show (2 * (400 - (σ_548 h0 8).toInt) + (1 : Int32).toInt).toNat < (2 * (400 - (σ_26 h0 8).toInt) + (i_25 : Int32).toInt).toNat; rw [k_558]; have z1 : (1 : Int32).toInt = 1 := (by decide); have z0 : (0 : Int32).toInt = 0 := (by decide); omega)
    · skip
      have uc_121 := i_eq (n := 0) (by decide) c_121
      refine lv_iconst (v := 0) hx hb dX12_tested_23 (by decide) ?_
      exact W.zret (v := 0) hx hb hr rfl (fun t ht hW => ⟨⟨0, (σ_107, ρ_108), rfl, ⟨hB.2.1, hB.2.2, ⟨(show 0 ≤ (0 : Int32).toInt ∧ (0 : Int32).toInt ≤ 1 from ⟨by decide, by decide⟩), (show (σ h0 8).toInt ≤ (σ_107 h0 8).toInt from (by omega)), (show EX (σ bg) (σ bl) (σ_107 bg) (σ_107 bl) tx from ex_117), (show (0 : Int32).toInt = 1 → SD (σ_107 bg) (σ_107 bl) tx w2 1 ∧ (σ_107 bl tx.toNatClampNeg).toInt ≤ (σ_107 h0 8).toInt from (fun h => absurd h (by decide)))⟩⟩, (show TP D cA L T r σ_107 ρ_108 t.heap from by rw [ht]; exact hB.1)⟩, hS.F ht⟩) hS.2.2 dX12_tested_24
