theorem nar_z (x : Int32) : 0 ≤ (vp_nar .boolean x).toInt ∧ (vp_nar .boolean x).toInt ≤ 1 := and_m 1 (n := 1) (m := 1) (x := x) (by decide) (by decide) (by decide) rfl
theorem mw_8_92 : (.instanceMethod yX12_begins : Cond) ∈ wsA := wsA_t (List.mem_append_right _ (List.mem_append_right _ (List.mem_append_right _ (List.mem_append_right _ (List.mem_append_right _ (List.mem_append_right _ (List.mem_append_right _ (List.mem_of_getElem? (l := tables_1_8) (i := 92) rfl)))))))) rfl
theorem mp_8_6 : (.selects RX12 yX12_begins yX12_begins : Cond) ∈ wsA := wsA_p (q := (yX12_begins, 44)) (List.mem_append_right _ (List.mem_append_right _ (List.mem_append_right _ (List.mem_append_right _ (List.mem_append_right _ (List.mem_append_right _ (List.mem_append_right _ (List.mem_of_getElem? (l := lw_privs_8) (i := 6) rfl))))))))
theorem mw_8_93 : (.code yX12_begins cX12_begins 2 none : Cond) ∈ wsA := wsA_t (List.mem_append_right _ (List.mem_append_right _ (List.mem_append_right _ (List.mem_append_right _ (List.mem_append_right _ (List.mem_append_right _ (List.mem_append_right _ (List.mem_of_getElem? (l := tables_1_8) (i := 93) rfl)))))))) rfl
theorem mw_8_90 : (.methodLink RX12 445 yX12_begins : Cond) ∈ wsA := wsA_t (List.mem_append_right _ (List.mem_append_right _ (List.mem_append_right _ (List.mem_append_right _ (List.mem_append_right _ (List.mem_append_right _ (List.mem_append_right _ (List.mem_of_getElem? (l := tables_1_8) (i := 90) rfl)))))))) rfl
theorem mw_8_96 : (.instanceMethod yX12_areNotesSo : Cond) ∈ wsA := wsA_t (List.mem_append_right _ (List.mem_append_right _ (List.mem_append_right _ (List.mem_append_right _ (List.mem_append_right _ (List.mem_append_right _ (List.mem_append_right _ (List.mem_of_getElem? (l := tables_1_8) (i := 96) rfl)))))))) rfl
theorem mp_8_7 : (.selects RX12 yX12_areNotesSo yX12_areNotesSo : Cond) ∈ wsA := wsA_p (q := (yX12_areNotesSo, 44)) (List.mem_append_right _ (List.mem_append_right _ (List.mem_append_right _ (List.mem_append_right _ (List.mem_append_right _ (List.mem_append_right _ (List.mem_append_right _ (List.mem_of_getElem? (l := lw_privs_8) (i := 7) rfl))))))))
theorem mw_8_97 : (.code yX12_areNotesSo cX12_areNotesSo 2 (some .boolean) : Cond) ∈ wsA := wsA_t (List.mem_append_right _ (List.mem_append_right _ (List.mem_append_right _ (List.mem_append_right _ (List.mem_append_right _ (List.mem_append_right _ (List.mem_append_right _ (List.mem_of_getElem? (l := tables_1_8) (i := 97) rfl)))))))) rfl
theorem mw_8_94 : (.methodLink RX12 448 yX12_areNotesSo : Cond) ∈ wsA := wsA_t (List.mem_append_right _ (List.mem_append_right _ (List.mem_append_right _ (List.mem_append_right _ (List.mem_append_right _ (List.mem_append_right _ (List.mem_append_right _ (List.mem_of_getElem? (l := tables_1_8) (i := 94) rfl)))))))) rfl
theorem dX12_fillsFits_0 : decode cX12_fillsFits 0 = .ok (.aload_n 0, 1) := by decide +kernel
theorem dX12_fillsFits_1 : decode cX12_fillsFits 1 = .ok (.getfield 42, 3) := by decide +kernel
theorem dX12_fillsFits_4 : decode cX12_fillsFits 4 = .ok (.istore_n 2, 1) := by decide +kernel
theorem dX12_fillsFits_5 : decode cX12_fillsFits 5 = .ok (.aload_n 0, 1) := by decide +kernel
theorem dX12_fillsFits_6 : decode cX12_fillsFits 6 = .ok (.invokevirtual 442, 3) := by decide +kernel
theorem dX12_fillsFits_9 : decode cX12_fillsFits 9 = .ok (.iconst (-1), 1) := by decide +kernel
theorem dX12_fillsFits_10 : decode cX12_fillsFits 10 = .ok (.istore_n 3, 1) := by decide +kernel
theorem dX12_fillsFits_11 : decode cX12_fillsFits 11 = .ok (.iload_n 3, 1) := by decide +kernel
theorem dX12_fillsFits_12 : decode cX12_fillsFits 12 = .ok (.aload_n 0, 1) := by decide +kernel
theorem dX12_fillsFits_13 : decode cX12_fillsFits 13 = .ok (.getfield 276, 3) := by decide +kernel
theorem dX12_fillsFits_16 : decode cX12_fillsFits 16 = .ok (.if_icmp .ge 117, 3) := by decide +kernel
theorem dX12_fillsFits_19 : decode cX12_fillsFits 19 = .ok (.aload_n 0, 1) := by decide +kernel
theorem dX12_fillsFits_20 : decode cX12_fillsFits 20 = .ok (.iload_n 3, 1) := by decide +kernel
theorem dX12_fillsFits_21 : decode cX12_fillsFits 21 = .ok (.putfield 42, 3) := by decide +kernel
theorem dX12_fillsFits_24 : decode cX12_fillsFits 24 = .ok (.aload_n 0, 1) := by decide +kernel
theorem dX12_fillsFits_25 : decode cX12_fillsFits 25 = .ok (.invokevirtual 445, 3) := by decide +kernel
theorem dX12_fillsFits_28 : decode cX12_fillsFits 28 = .ok (.iconst 1, 1) := by decide +kernel
theorem dX12_fillsFits_29 : decode cX12_fillsFits 29 = .ok (.istore 4, 2) := by decide +kernel
theorem dX12_fillsFits_31 : decode cX12_fillsFits 31 = .ok (.iconst 0, 1) := by decide +kernel
theorem dX12_fillsFits_32 : decode cX12_fillsFits 32 = .ok (.istore 5, 2) := by decide +kernel
theorem dX12_fillsFits_34 : decode cX12_fillsFits 34 = .ok (.iload 5, 2) := by decide +kernel
theorem dX12_fillsFits_36 : decode cX12_fillsFits 36 = .ok (.bipush 60, 2) := by decide +kernel
theorem dX12_fillsFits_38 : decode cX12_fillsFits 38 = .ok (.if_icmp .gt 79, 3) := by decide +kernel
theorem dX12_fillsFits_41 : decode cX12_fillsFits 41 = .ok (.iload 4, 2) := by decide +kernel
theorem dX12_fillsFits_43 : decode cX12_fillsFits 43 = .ok (.ifCond .eq 14, 3) := by decide +kernel
theorem dX12_fillsFits_57 : decode cX12_fillsFits 57 = .ok (.iconst 0, 1) := by decide +kernel
theorem dX12_fillsFits_58 : decode cX12_fillsFits 58 = .ok (.istore 4, 2) := by decide +kernel
theorem dX12_fillsFits_60 : decode cX12_fillsFits 60 = .ok (.iconst 0, 1) := by decide +kernel
theorem dX12_fillsFits_61 : decode cX12_fillsFits 61 = .ok (.istore 6, 2) := by decide +kernel
theorem dX12_fillsFits_63 : decode cX12_fillsFits 63 = .ok (.iload 6, 2) := by decide +kernel
theorem dX12_fillsFits_65 : decode cX12_fillsFits 65 = .ok (.aload_n 0, 1) := by decide +kernel
theorem dX12_fillsFits_66 : decode cX12_fillsFits 66 = .ok (.getfield 39, 3) := by decide +kernel
theorem dX12_fillsFits_69 : decode cX12_fillsFits 69 = .ok (.iconst 2, 1) := by decide +kernel
theorem dX12_fillsFits_70 : decode cX12_fillsFits 70 = .ok (.iaload, 1) := by decide +kernel
theorem dX12_fillsFits_71 : decode cX12_fillsFits 71 = .ok (.if_icmp .ge 35, 3) := by decide +kernel
theorem dX12_fillsFits_74 : decode cX12_fillsFits 74 = .ok (.iload 5, 2) := by decide +kernel
theorem dX12_fillsFits_76 : decode cX12_fillsFits 76 = .ok (.iload_n 1, 1) := by decide +kernel
theorem dX12_fillsFits_77 : decode cX12_fillsFits 77 = .ok (.if_icmp .ne 29, 3) := by decide +kernel
theorem dX12_fillsFits_80 : decode cX12_fillsFits 80 = .ok (.aload_n 0, 1) := by decide +kernel
theorem dX12_fillsFits_81 : decode cX12_fillsFits 81 = .ok (.getfield 77, 3) := by decide +kernel
theorem dX12_fillsFits_84 : decode cX12_fillsFits 84 = .ok (.bipush 8, 2) := by decide +kernel
theorem dX12_fillsFits_86 : decode cX12_fillsFits 86 = .ok (.iload_n 3, 1) := by decide +kernel
theorem dX12_fillsFits_87 : decode cX12_fillsFits 87 = .ok (.iconst 1, 1) := by decide +kernel
theorem dX12_fillsFits_88 : decode cX12_fillsFits 88 = .ok (.iadd, 1) := by decide +kernel
theorem dX12_fillsFits_89 : decode cX12_fillsFits 89 = .ok (.imul, 1) := by decide +kernel
theorem dX12_fillsFits_90 : decode cX12_fillsFits 90 = .ok (.iload 6, 2) := by decide +kernel
theorem dX12_fillsFits_92 : decode cX12_fillsFits 92 = .ok (.iadd, 1) := by decide +kernel
theorem dX12_fillsFits_93 : decode cX12_fillsFits 93 = .ok (.aload_n 0, 1) := by decide +kernel
theorem dX12_fillsFits_94 : decode cX12_fillsFits 94 = .ok (.iload 6, 2) := by decide +kernel
theorem dX12_fillsFits_96 : decode cX12_fillsFits 96 = .ok (.invokevirtual 332, 3) := by decide +kernel
theorem dX12_fillsFits_99 : decode cX12_fillsFits 99 = .ok (.iastore, 1) := by decide +kernel
theorem dX12_fillsFits_100 : decode cX12_fillsFits 100 = .ok (.iinc 6 1, 3) := by decide +kernel
theorem dX12_fillsFits_103 : decode cX12_fillsFits 103 = .ok (.goto (-40), 3) := by decide +kernel
theorem dX12_fillsFits_106 : decode cX12_fillsFits 106 = .ok (.aload_n 0, 1) := by decide +kernel
theorem dX12_fillsFits_107 : decode cX12_fillsFits 107 = .ok (.invokevirtual 360, 3) := by decide +kernel
theorem dX12_fillsFits_110 : decode cX12_fillsFits 110 = .ok (.pop, 1) := by decide +kernel
theorem dX12_fillsFits_111 : decode cX12_fillsFits 111 = .ok (.iinc 5 1, 3) := by decide +kernel
theorem dX12_fillsFits_114 : decode cX12_fillsFits 114 = .ok (.goto (-80), 3) := by decide +kernel
theorem dX12_fillsFits_46 : decode cX12_fillsFits 46 = .ok (.aload_n 0, 1) := by decide +kernel
theorem dX12_fillsFits_47 : decode cX12_fillsFits 47 = .ok (.invokevirtual 448, 3) := by decide +kernel
theorem dX12_fillsFits_50 : decode cX12_fillsFits 50 = .ok (.ifCond .eq 7, 3) := by decide +kernel
theorem dX12_fillsFits_53 : decode cX12_fillsFits 53 = .ok (.iconst 1, 1) := by decide +kernel
theorem dX12_fillsFits_54 : decode cX12_fillsFits 54 = .ok (.goto 4, 3) := by decide +kernel
theorem dX12_fillsFits_117 : decode cX12_fillsFits 117 = .ok (.aload_n 0, 1) := by decide +kernel
theorem dX12_fillsFits_118 : decode cX12_fillsFits 118 = .ok (.getfield 73, 3) := by decide +kernel
theorem dX12_fillsFits_121 : decode cX12_fillsFits 121 = .ok (.iload_n 3, 1) := by decide +kernel
theorem dX12_fillsFits_122 : decode cX12_fillsFits 122 = .ok (.iconst 1, 1) := by decide +kernel
theorem dX12_fillsFits_123 : decode cX12_fillsFits 123 = .ok (.iadd, 1) := by decide +kernel
theorem dX12_fillsFits_124 : decode cX12_fillsFits 124 = .ok (.iload 4, 2) := by decide +kernel
theorem dX12_fillsFits_126 : decode cX12_fillsFits 126 = .ok (.bastore, 1) := by decide +kernel
theorem dX12_fillsFits_127 : decode cX12_fillsFits 127 = .ok (.iinc 3 1, 3) := by decide +kernel
theorem dX12_fillsFits_130 : decode cX12_fillsFits 130 = .ok (.goto (-119), 3) := by decide +kernel
theorem dX12_fillsFits_133 : decode cX12_fillsFits 133 = .ok (.aload_n 0, 1) := by decide +kernel
theorem dX12_fillsFits_134 : decode cX12_fillsFits 134 = .ok (.iload_n 2, 1) := by decide +kernel
theorem dX12_fillsFits_135 : decode cX12_fillsFits 135 = .ok (.putfield 42, 3) := by decide +kernel
theorem dX12_fillsFits_138 : decode cX12_fillsFits 138 = .ok (.aload_n 0, 1) := by decide +kernel
theorem dX12_fillsFits_139 : decode cX12_fillsFits 139 = .ok (.invokevirtual 451, 3) := by decide +kernel
theorem dX12_fillsFits_142 : decode cX12_fillsFits 142 = .ok (.return_, 1) := by decide +kernel
theorem mv_X12_begins : MV RX12 yX12_begins cX12_begins 2 none 0 := ⟨mw_8_92, mp_8_6, mw_1_13, mw_8_93, ⟨rfl, by decide, by decide, by decide +kernel⟩⟩
theorem mv_X12_areNotesSo : MV RX12 yX12_areNotesSo cX12_areNotesSo 2 (some .boolean) 0 := ⟨mw_8_96, mp_8_7, mw_1_13, mw_8_97, ⟨rfl, by decide, by decide, by decide +kernel⟩⟩
set_option maxHeartbeats 4000000 in
set_option maxRecDepth 100000 in
theorem cy_X12_fillsFits (l : Launch) (D : va_G) (cA : Nat → ClassId) (L : List Nat) (T : Nat → Nat) (r : Rg) (hG : GR L T r) (hL : L.Nodup) (σ : Sg) (ρ : Lg) (hW : WT L ry T σ) (sz : Nat) (h0 : Nat) (mh0 : h0 ∈ L) (th0 : T h0 = 12) (p1 : Int32) (bg : Nat) (hbg : r h0 3 = some bg) (mbg : bg ∈ L) (tbg : T bg = 62) (bk : Nat) (hbk : r h0 5 = some bk) (mbk : bk ∈ L) (tbk : T bk = 64) (bc : Nat) (hbc : r h0 6 = some bc) (mbc : bc ∈ L) (tbc : T bc = 65) (w0 : WR (σ bg) (σ bk) (σ bc) (σ h0 2).toInt.toNat) : Met l yX12_fillsFits (.code yX12_fillsFits cX12_fillsFits 7 none :: wsA) ({ frames := 4, cells := 0, slots := 0, locals := 100 }) (PR D cA L T r σ ρ sz [.ref h0, .int p1]) (QV D cA L T r ry [(12, 18), (12, 21), (70, 1000), (71, 1000), (79, 1000), (80, 1000), (81, 1000)] σ sz (fun σ1 => (σ1 h0 21 = σ h0 21))) 0 0 (dm L sz) := by
  refine Met.ofW (cc := cX12_fillsFits) (maxL := 7) (ret := none) (by decide) rfl ?_
  intro p e s m args below meth c s₁ B hml hv
  obtain ⟨rfl, hsz, hP, hK, hN⟩ := hv
  have hx := B.exec
  have hb := B.bytes
  have hr := B.returns
  have hts : ∀ w ∈ wsA, w.before _ s = true := fun w h => atoms_spec (ws := .code yX12_fillsFits cX12_fillsFits 7 none :: wsA) B.pre w (List.mem_cons_of_mem _ h)
  have hown : s.vm.findClass RX12 = some m.cls := findClass_of_methodNamed B.named
  subst hsz
  have hLA : LA (dm L s.heap.size) L := ⟨hL, fun a h => Or.inl h⟩
  have hA : ∀ q : Nat, s.heap.size ≤ q → dm L s.heap.size q := fun q h => Or.inr h
  have hS : va_S (dm L s.heap.size) s.heap s.heap [] := va_S.rf
  have hB : TS D cA L T r ry [(12, 18), (12, 21), (70, 1000), (71, 1000), (79, 1000), (80, 1000), (81, 1000)] σ σ ρ s.heap := ⟨hP, hW, FR.rf⟩
  have hl := lv_entry ([.ref h0, .int p1]) (n := 7) (Nat.le_of_ble_eq_true rfl)
  rw [lg_entry_eq]
  generalize (lg_sl ([.ref h0, .int p1]) ++ List.replicate (7 - (lg_sl ([.ref h0, .int p1])).length) Slot.unset).toArray = ls at hl ⊢
  have hl : lv_has ls 7 [(0, .ref h0), (1, .int p1)] := hl
  have w_1 : (-1) ≤ (σ h0 21).toInt ∧ (σ h0 21).toInt ≤ 5 := by have z := hB.2.1 h0 mh0 21; rw [th0] at z; exact z
  have w_2 : 0 ≤ (σ h0 2).toInt ∧ (σ h0 2).toInt ≤ 6 := by have z := hB.2.1 h0 mh0 2; rw [th0] at z; exact z
  refine lv_aload_n hx hb dX12_fillsFits_0 rfl (lv_at hl 0 rfl) ?_
  refine t_gv hx hb hts hown hK hB mh0 th0 fi_12_21 rfl mw_5_237 dX12_fillsFits_1 ?_
  refine lv_istore_n (lv' := [(2, .int (σ h0 21)), (0, .ref h0), (1, .int p1)]) hx hb dX12_fillsFits_4 rfl hl (by decide) rfl (fun ls hl => ?_)
  refine lv_aload_n hx hb dX12_fillsFits_5 rfl (lv_at hl 1 rfl) ?_
  refine t_cv (va_runV (As := []) (rest := []) ⟨hx, hb, hml, hown, hts⟩ (cy_X12_keeps l D cA L T r hG hLA.1 σ ρ hB.2.1 _ h0 mh0 th0) (cV hts mv_X12_keeps mw_8_86 rfl rfl ⟨Nat.le_of_ble_eq_true rfl, Nat.le_of_ble_eq_true rfl⟩) (pV hB.1 hK hN mh0 th0 (show shp cA 12 _ _ _ = .inr (12, Fs12 _ _ _) from rfl) rfl) rfl rfl hl.1 rfl (lv_room (Nat.le_of_ble_eq_true rfl)) dX12_fillsFits_6 ⟨Nat.le_of_ble_eq_true rfl, Nat.le_of_ble_eq_true rfl⟩) hLA hA hB hS (by decide) (fun σ_3 ρ_4 H locs hB fσ_3 pσ_3 hS => ?_)
  refine lv_iconst (v := (-1)) hx hb dX12_fillsFits_9 (by decide) ?_
  refine lv_istore_n (lv' := [(3, .int (-1)), (2, .int (σ h0 21)), (0, .ref h0), (1, .int p1)]) hx hb dX12_fillsFits_10 rfl hl (by decide) rfl (fun ls hl => ?_)
  have k_6 : σ_3 h0 2 = (σ h0 2) := (FR.at fσ_3 th0 (by decide)).trans rfl
  refine w_loop (α := Int32 × Sg × Lg) (fun (i_7, σ_8, ρ_9) H locs ls => (-1) ≤ i_7.toInt ∧ i_7.toInt ≤ 6 ∧ σ_8 h0 2 = (σ h0 2) ∧ TS D cA L T r ry [(12, 18), (12, 21), (70, 1000), (71, 1000), (79, 1000), (80, 1000), (81, 1000)] σ σ_8 ρ_9 H ∧ va_S (dm L s.heap.size) s.heap H locs ∧ lv_has ls 7 [(3, .int i_7), (2, .int (σ h0 21)), (0, .ref h0), (1, .int p1)]) (fun (i_7, σ_8, ρ_9) => (6 - i_7.toInt).toNat) ?_ ⟨(-1), σ_3, ρ_4⟩ ⟨(by decide), (by decide), k_6, hB, hS, lv_sub hl [0, 1, 2, 3] rfl⟩
  rintro ⟨i_7, σ_8, ρ_9⟩ H locs ls ⟨li_7, ui_7, k_11, hB, hS, hl⟩ ih_10
  refine lv_iload_n hx hb dX12_fillsFits_11 rfl (lv_at hl 0 rfl) ?_
  refine lv_aload_n hx hb dX12_fillsFits_12 rfl (lv_at hl 2 rfl) ?_
  refine t_gv hx hb hts hown hK hB mh0 th0 fi_12_2 k_11 mw_5_218 dX12_fillsFits_13 ?_
  refine lv_icmp_ge (tgt := 133) hx hb dX12_fillsFits_16 (by decide) (fun c_12 => ?_) (fun c_12 => ?_)
  · skip
    have uc_12 := j_le c_12
    refine lv_aload_n hx hb dX12_fillsFits_133 rfl (lv_at hl 2 rfl) ?_
    refine lv_iload_n hx hb dX12_fillsFits_134 rfl (lv_at hl 1 rfl) ?_
    refine t_pi hx hb hts hown hK hLA hB hS mh0 th0 fi_12_21 rfl rfl rfl (by first | omega | (subst_vars; omega)) (by first | omega | (subst_vars; omega)) (Or.inl (by decide)) mw_5_237 dX12_fillsFits_135 (fun H locs σ_13 eσ_13 hB hS => ?_)
    have k_14 : σ_13 h0 21 = (σ h0 21) := by rw [eσ_13]; exact up2_same _ _ _ _
    refine lv_aload_n hx hb dX12_fillsFits_138 rfl (lv_at hl 2 rfl) ?_
    refine t_cv (va_runV (As := []) (rest := []) ⟨hx, hb, hml, hown, hts⟩ (cy_X12_laysBack l D cA L T r hG hLA.1 σ_13 ρ_9 hB.2.1 _ h0 mh0 th0) (cV hts mv_X12_laysBack mw_8_98 rfl rfl ⟨Nat.le_of_ble_eq_true rfl, Nat.le_of_ble_eq_true rfl⟩) (pV hB.1 hK hN mh0 th0 (show shp cA 12 _ _ _ = .inr (12, Fs12 _ _ _) from rfl) rfl) rfl rfl hl.1 rfl (lv_room (Nat.le_of_ble_eq_true rfl)) dX12_fillsFits_139 ⟨Nat.le_of_ble_eq_true rfl, Nat.le_of_ble_eq_true rfl⟩) hLA hA hB hS (by decide) (fun σ_15 ρ_16 H locs hB fσ_15 pσ_15 hS => ?_)
    have k_18 : σ_15 h0 21 = (σ h0 21) := (FR.at fσ_15 th0 (by decide)).trans k_14
    exact W.vret hx hb hr (fun t ht hW => ⟨⟨(σ_15, ρ_16), rfl, ⟨hB.2.1, hB.2.2, (show σ_15 h0 21 = σ h0 21 from k_18)⟩, (show TP D cA L T r σ_15 ρ_16 t.heap from by rw [ht]; exact hB.1)⟩, hS.F ht⟩) hS.2.2 dX12_fillsFits_142
  · skip
    have uc_12 := j_nle c_12
    refine lv_aload_n hx hb dX12_fillsFits_19 rfl (lv_at hl 2 rfl) ?_
    refine lv_iload_n hx hb dX12_fillsFits_20 rfl (lv_at hl 0 rfl) ?_
    refine t_pi hx hb hts hown hK hLA hB hS mh0 th0 fi_12_21 rfl rfl rfl (by first | omega | (subst_vars; omega)) (by first | omega | (subst_vars; omega)) (Or.inl (by decide)) mw_5_237 dX12_fillsFits_21 (fun H locs σ_19 eσ_19 hB hS => ?_)
    have k_20 : σ_19 h0 21 = i_7 := by rw [eσ_19]; exact up2_same _ _ _ _
    refine lv_aload_n hx hb dX12_fillsFits_24 rfl (lv_at hl 2 rfl) ?_
    refine t_cv (va_runV (As := []) (rest := []) ⟨hx, hb, hml, hown, hts⟩ (cy_X12_begins l D cA L T r hG hLA.1 σ_19 ρ_9 hB.2.1 _ h0 mh0 th0) (cV hts mv_X12_begins mw_8_90 rfl rfl ⟨Nat.le_of_ble_eq_true rfl, Nat.le_of_ble_eq_true rfl⟩) (pV hB.1 hK hN mh0 th0 (show shp cA 12 _ _ _ = .inr (12, Fs12 _ _ _) from rfl) rfl) rfl rfl hl.1 rfl (lv_room (Nat.le_of_ble_eq_true rfl)) dX12_fillsFits_25 ⟨Nat.le_of_ble_eq_true rfl, Nat.le_of_ble_eq_true rfl⟩) hLA hA hB hS (by decide) (fun σ_21 ρ_22 H locs hB fσ_21 pσ_21 hS => ?_)
    refine lv_iconst (v := 1) hx hb dX12_fillsFits_28 (by decide) ?_
    refine lv_istore (lv' := [(4, .int 1), (3, .int i_7), (2, .int (σ h0 21)), (0, .ref h0), (1, .int p1)]) hx hb dX12_fillsFits_29 hl (by decide) rfl (fun ls hl => ?_)
    refine lv_iconst (v := 0) hx hb dX12_fillsFits_31 (by decide) ?_
    refine lv_istore (lv' := [(5, .int 0), (4, .int 1), (3, .int i_7), (2, .int (σ h0 21)), (0, .ref h0), (1, .int p1)]) hx hb dX12_fillsFits_32 hl (by decide) rfl (fun ls hl => ?_)
    have k_24 : σ_19 h0 2 = (σ h0 2) := by rw [eσ_19, up2_nej _ _ (by decide)]; exact k_11
    have k_25 : σ_21 h0 2 = (σ h0 2) := (FR.at fσ_21 th0 (by decide)).trans k_24
    have k_26 : σ_21 h0 21 = i_7 := (FR.at fσ_21 th0 (by decide)).trans k_20
    refine w_loop (α := Int32 × Int32 × Sg × Lg) (fun (i_27, i_28, σ_29, ρ_30) H locs ls => 0 ≤ i_28.toInt ∧ i_28.toInt ≤ 61 ∧ σ_29 h0 2 = (σ h0 2) ∧ σ_29 h0 21 = i_7 ∧ TS D cA L T r ry [(12, 18), (12, 21), (70, 1000), (71, 1000), (79, 1000), (80, 1000), (81, 1000)] σ σ_29 ρ_30 H ∧ va_S (dm L s.heap.size) s.heap H locs ∧ lv_has ls 7 [(5, .int i_28), (4, .int i_27), (3, .int i_7), (2, .int (σ h0 21)), (0, .ref h0), (1, .int p1)]) (fun (i_27, i_28, σ_29, ρ_30) => (61 - i_28.toInt).toNat) ?_ ⟨1, 0, σ_21, ρ_22⟩ ⟨(by decide), (by decide), k_25, k_26, hB, hS, lv_sub hl [0, 1, 2, 3, 4, 5] rfl⟩
    rintro ⟨i_27, i_28, σ_29, ρ_30⟩ H locs ls ⟨li_28, ui_28, k_32, k_33, hB, hS, hl⟩ ih_31
    refine lv_iload hx hb dX12_fillsFits_34 (lv_at hl 0 rfl) ?_
    refine lv_bipush (v := 60) hx hb dX12_fillsFits_36 (by decide) ?_
    refine lv_icmp_gt (tgt := 117) hx hb dX12_fillsFits_38 (by decide) (fun c_34 => ?_) (fun c_34 => ?_)
    · skip
      have uc_34 := i_gt (n := 60) (by decide) c_34
      refine lv_aload_n hx hb dX12_fillsFits_117 rfl (lv_at hl 4 rfl) ?_
      refine t_gr hx hb hts hown hK hG hB mh0 th0 fq_12_37 rfl mw_6_13 dX12_fillsFits_118 (fun b_35 hb_35 mb_35 tb_35 => ?_)
      refine lv_iload_n hx hb dX12_fillsFits_121 rfl (lv_at hl 2 rfl) ?_
      refine lv_iconst (v := 1) hx hb dX12_fillsFits_122 (by decide) ?_
      refine lv_iadd hx hb dX12_fillsFits_123 ?_
      refine lv_topi (fun x_36 ex_36 => ?_)
      have vx_36 := b_add (rfl : i_7.toInt = _) (by decide : (1 : Int32).toInt = 1) ex_36 (by omega) (by omega)
      refine lv_iload hx hb dX12_fillsFits_124 (lv_at hl 1 rfl) ?_
      refine t_sz hx hb hK hLA hB hS mb_35 tb_35 ai_80 (i_in (by omega) (by omega)) (nar_z _).1 (nar_z _).2 (Or.inr (by decide)) dX12_fillsFits_126 (fun H locs σ_37 eσ_37 hB hS => ?_)
      obtain ⟨x_38, ex_38⟩ : ∃ y : Int32, y = i_7 + 1 := ⟨_, rfl⟩
      have vx_38 := b_add (rfl : i_7.toInt = _) (by decide : (1 : Int32).toInt = 1) ex_38 (by omega) (by omega)
      refine lv_iinc (v := x_38) (lv' := [(3, .int x_38), (5, .int i_28), (4, .int i_27), (2, .int (σ h0 21)), (0, .ref h0), (1, .int p1)]) hx hb dX12_fillsFits_127 hl (k := 2) rfl (by rw [ex_38]; rfl) (by decide) rfl (fun ls hl => ?_)
      refine lv_goto (tgt := 11) hx hb dX12_fillsFits_130 (by decide) ?_
      have k_39 : σ_37 h0 2 = (σ h0 2) := by rw [eσ_37, up2_nea _ _ (tg_ne th0 tb_35 (by decide))]; exact k_32
      exact ih_10 ⟨x_38, σ_37, ρ_30⟩ _ _ _ ⟨(by omega), (by omega), k_39, hB, hS, lv_sub hl [0, 3, 4, 5] rfl⟩ (by show (6 - x_38.toInt).toNat < (6 - i_7.toInt).toNat; omega)
    · skip
      have uc_34 := i_ngt (n := 60) (by decide) c_34
      refine lv_iload hx hb dX12_fillsFits_41 (lv_at hl 1 rfl) ?_
      refine lv_if_eq (tgt := 57) hx hb dX12_fillsFits_43 (by decide) (fun c_40 => ?_) (fun c_40 => ?_)
      · skip
        have uc_40 := i_eq (n := 0) (by decide) c_40
        refine lv_iconst (v := 0) hx hb dX12_fillsFits_57 (by decide) ?_
        refine lv_istore (lv' := [(4, .int 0), (5, .int i_28), (3, .int i_7), (2, .int (σ h0 21)), (0, .ref h0), (1, .int p1)]) hx hb dX12_fillsFits_58 hl (by decide) rfl (fun ls hl => ?_)
        refine lv_iconst (v := 0) hx hb dX12_fillsFits_60 (by decide) ?_
        refine lv_istore (lv' := [(6, .int 0), (4, .int 0), (5, .int i_28), (3, .int i_7), (2, .int (σ h0 21)), (0, .ref h0), (1, .int p1)]) hx hb dX12_fillsFits_61 hl (by decide) rfl (fun ls hl => ?_)
        refine w_loop (α := Int32 × Sg × Lg) (fun (i_41, σ_42, ρ_43) H locs ls => 0 ≤ i_41.toInt ∧ i_41.toInt ≤ 8 ∧ σ_42 h0 2 = (σ h0 2) ∧ σ_42 h0 21 = i_7 ∧ TS D cA L T r ry [(12, 18), (12, 21), (70, 1000), (71, 1000), (79, 1000), (80, 1000), (81, 1000)] σ σ_42 ρ_43 H ∧ va_S (dm L s.heap.size) s.heap H locs ∧ lv_has ls 7 [(6, .int i_41), (4, .int 0), (5, .int i_28), (3, .int i_7), (2, .int (σ h0 21)), (0, .ref h0), (1, .int p1)]) (fun (i_41, σ_42, ρ_43) => (8 - i_41.toInt).toNat) ?_ ⟨0, σ_29, ρ_30⟩ ⟨(by decide), (by decide), k_32, k_33, hB, hS, lv_sub hl [0, 1, 2, 3, 4, 5, 6] rfl⟩
        rintro ⟨i_41, σ_42, ρ_43⟩ H locs ls ⟨li_41, ui_41, k_45, k_46, hB, hS, hl⟩ ih_44
        refine lv_iload hx hb dX12_fillsFits_63 (lv_at hl 0 rfl) ?_
        refine lv_aload_n hx hb dX12_fillsFits_65 rfl (lv_at hl 5 rfl) ?_
        refine t_gr hx hb hts hown hK hG hB mh0 th0 fq_12_20 rfl mw_5_236 dX12_fillsFits_66 (fun b_47 hb_47 mb_47 tb_47 => ?_)
        refine lv_iconst (v := 2) hx hb dX12_fillsFits_69 (by decide) ?_
        refine t_aj hx hb hK hB mb_47 tb_47 ai_70 (i_in (by decide) (by decide)) dX12_fillsFits_70 (fun x_48 ex_48 lx_48 ux_48 => ?_)
        have lx_48 : 0 ≤ x_48.toInt := lx_48
        have ux_48 : x_48.toInt ≤ 8 := ux_48
        have cx_48 := congrArg Int32.toInt ex_48
        refine lv_icmp_ge (tgt := 106) hx hb dX12_fillsFits_71 (by decide) (fun c_49 => ?_) (fun c_49 => ?_)
        · skip
          have uc_49 := j_le c_49
          refine lv_aload_n hx hb dX12_fillsFits_106 rfl (lv_at hl 5 rfl) ?_
          refine t_ci (va_runV (As := []) (rest := []) ⟨hx, hb, hml, hown, hts⟩ (cy_X12_passes l D cA L T r hG hLA.1 σ_42 ρ_43 hB.2.1 _ h0 mh0 th0 bg hbg mbg tbg bk hbk mbk tbk bc hbc mbc tbc (by rw [FR.row hB.2.2 tbg (fun j => by simp), FR.row hB.2.2 tbk (fun j => by simp), FR.row hB.2.2 tbc (fun j => by simp), FR.at hB.2.2 th0 (by simp)]; exact w0) (by rw [k_46, k_45]; omega)) (cV hts mv_X12_passes mw_7_131 rfl rfl ⟨Nat.le_of_ble_eq_true rfl, Nat.le_of_ble_eq_true rfl⟩) (pV hB.1 hK hN mh0 th0 (show shp cA 12 _ _ _ = .inr (12, Fs12 _ _ _) from rfl) rfl) rfl rfl hl.1 rfl (lv_room (Nat.le_of_ble_eq_true rfl)) dX12_fillsFits_107 ⟨Nat.le_of_ble_eq_true rfl, Nat.le_of_ble_eq_true rfl⟩) hLA hA hB hS (by decide) (fun x_52 σ_50 ρ_51 H locs hB fσ_50 pσ_50 hS => ?_)
          refine lv_pop hx hb dX12_fillsFits_110 rfl ?_
          obtain ⟨x_53, ex_53⟩ : ∃ y : Int32, y = i_28 + 1 := ⟨_, rfl⟩
          have vx_53 := b_add (rfl : i_28.toInt = _) (by decide : (1 : Int32).toInt = 1) ex_53 (by omega) (by omega)
          refine lv_iinc (v := x_53) (lv' := [(5, .int x_53), (6, .int i_41), (4, .int 0), (3, .int i_7), (2, .int (σ h0 21)), (0, .ref h0), (1, .int p1)]) hx hb dX12_fillsFits_111 hl (k := 2) rfl (by rw [ex_53]; rfl) (by decide) rfl (fun ls hl => ?_)
          refine lv_goto (tgt := 34) hx hb dX12_fillsFits_114 (by decide) ?_
          have k_54 : σ_50 h0 2 = (σ h0 2) := (FR.at fσ_50 th0 (by decide)).trans k_45
          have k_55 : σ_50 h0 21 = i_7 := (FR.at fσ_50 th0 (by decide)).trans k_46
          exact ih_31 ⟨0, x_53, σ_50, ρ_51⟩ _ _ _ ⟨(by omega), (by omega), k_54, k_55, hB, hS, lv_sub hl [0, 2, 3, 4, 5, 6] rfl⟩ (by show (61 - x_53.toInt).toNat < (61 - i_28.toInt).toNat; omega)
        · skip
          have uc_49 := j_nle c_49
          refine lv_iload hx hb dX12_fillsFits_74 (lv_at hl 2 rfl) ?_
          refine lv_iload_n hx hb dX12_fillsFits_76 rfl (lv_at hl 6 rfl) ?_
          refine lv_icmp_ne (tgt := 106) hx hb dX12_fillsFits_77 (by decide) (fun c_56 => ?_) (fun c_56 => ?_)
          · skip
            have uc_56 := j_ne c_56
            refine lv_aload_n hx hb dX12_fillsFits_106 rfl (lv_at hl 5 rfl) ?_
            refine t_ci (va_runV (As := []) (rest := []) ⟨hx, hb, hml, hown, hts⟩ (cy_X12_passes l D cA L T r hG hLA.1 σ_42 ρ_43 hB.2.1 _ h0 mh0 th0 bg hbg mbg tbg bk hbk mbk tbk bc hbc mbc tbc (by rw [FR.row hB.2.2 tbg (fun j => by simp), FR.row hB.2.2 tbk (fun j => by simp), FR.row hB.2.2 tbc (fun j => by simp), FR.at hB.2.2 th0 (by simp)]; exact w0) (by rw [k_46, k_45]; omega)) (cV hts mv_X12_passes mw_7_131 rfl rfl ⟨Nat.le_of_ble_eq_true rfl, Nat.le_of_ble_eq_true rfl⟩) (pV hB.1 hK hN mh0 th0 (show shp cA 12 _ _ _ = .inr (12, Fs12 _ _ _) from rfl) rfl) rfl rfl hl.1 rfl (lv_room (Nat.le_of_ble_eq_true rfl)) dX12_fillsFits_107 ⟨Nat.le_of_ble_eq_true rfl, Nat.le_of_ble_eq_true rfl⟩) hLA hA hB hS (by decide) (fun x_59 σ_57 ρ_58 H locs hB fσ_57 pσ_57 hS => ?_)
            refine lv_pop hx hb dX12_fillsFits_110 rfl ?_
            obtain ⟨x_60, ex_60⟩ : ∃ y : Int32, y = i_28 + 1 := ⟨_, rfl⟩
            have vx_60 := b_add (rfl : i_28.toInt = _) (by decide : (1 : Int32).toInt = 1) ex_60 (by omega) (by omega)
            refine lv_iinc (v := x_60) (lv' := [(5, .int x_60), (6, .int i_41), (4, .int 0), (3, .int i_7), (2, .int (σ h0 21)), (0, .ref h0), (1, .int p1)]) hx hb dX12_fillsFits_111 hl (k := 2) rfl (by rw [ex_60]; rfl) (by decide) rfl (fun ls hl => ?_)
            refine lv_goto (tgt := 34) hx hb dX12_fillsFits_114 (by decide) ?_
            have k_61 : σ_57 h0 2 = (σ h0 2) := (FR.at fσ_57 th0 (by decide)).trans k_45
            have k_62 : σ_57 h0 21 = i_7 := (FR.at fσ_57 th0 (by decide)).trans k_46
            exact ih_31 ⟨0, x_60, σ_57, ρ_58⟩ _ _ _ ⟨(by omega), (by omega), k_61, k_62, hB, hS, lv_sub hl [0, 2, 3, 4, 5, 6] rfl⟩ (by show (61 - x_60.toInt).toNat < (61 - i_28.toInt).toNat; omega)
          · skip
            have uc_56 := j_eq c_56
            refine lv_aload_n hx hb dX12_fillsFits_80 rfl (lv_at hl 5 rfl) ?_
            refine t_gr hx hb hts hown hK hG hB mh0 th0 fq_12_38 rfl mw_6_14 dX12_fillsFits_81 (fun b_63 hb_63 mb_63 tb_63 => ?_)
            refine lv_bipush (v := 8) hx hb dX12_fillsFits_84 (by decide) ?_
            refine lv_iload_n hx hb dX12_fillsFits_86 rfl (lv_at hl 3 rfl) ?_
            refine lv_iconst (v := 1) hx hb dX12_fillsFits_87 (by decide) ?_
            refine lv_iadd hx hb dX12_fillsFits_88 ?_
            refine lv_topi (fun x_64 ex_64 => ?_)
            have vx_64 := b_add (rfl : i_7.toInt = _) (by decide : (1 : Int32).toInt = 1) ex_64 (by omega) (by omega)
            refine lv_imul hx hb dX12_fillsFits_89 ?_
            refine lv_topi (fun x_65 ex_65 => ?_)
            have vx_65 := b_mul (by decide : (8 : Int32).toInt = 8) (rfl : x_64.toInt = _) ex_65 (by omega) (by omega)
            refine lv_iload hx hb dX12_fillsFits_90 (lv_at hl 0 rfl) ?_
            refine lv_iadd hx hb dX12_fillsFits_92 ?_
            refine lv_topi (fun x_66 ex_66 => ?_)
            have vx_66 := b_add (rfl : x_65.toInt = _) (rfl : i_41.toInt = _) ex_66 (by omega) (by omega)
            refine lv_aload_n hx hb dX12_fillsFits_93 rfl (lv_at hl 5 rfl) ?_
            refine lv_iload hx hb dX12_fillsFits_94 (lv_at hl 0 rfl) ?_
            refine t_ci (va_runV (As := [.int i_41]) (rest := [.int x_66, .ref b_63]) ⟨hx, hb, hml, hown, hts⟩ (cy_X12_asksFor l D cA L T r hG hLA.1 σ_42 ρ_43 hB.2.1 _ h0 mh0 th0 i_41 (by first | omega | decide) (by first | omega | decide)) (cV hts mv_X12_asksFor mw_7_98 rfl rfl ⟨Nat.le_of_ble_eq_true rfl, Nat.le_of_ble_eq_true rfl⟩) (pV hB.1 hK hN mh0 th0 (show shp cA 12 _ _ _ = .inr (12, Fs12 _ _ _) from rfl) rfl) rfl rfl hl.1 rfl (lv_room (Nat.le_of_ble_eq_true rfl)) dX12_fillsFits_96 ⟨Nat.le_of_ble_eq_true rfl, Nat.le_of_ble_eq_true rfl⟩) hLA hA hB hS (by decide) (fun x_69 σ_67 ρ_68 H locs hB fσ_67 pσ_67 hS => ?_)
            have qσ_67 := FR.nil fσ_67
            subst qσ_67
            obtain ⟨lx_69, ux_69⟩ := pσ_67
            refine t_si hx hb hK hLA hB hS mb_63 tb_63 ai_81 (i_in (by omega) (by omega)) (i_lo _) (i_hi _) (Or.inr (by decide)) dX12_fillsFits_99 (fun H locs σ_70 eσ_70 hB hS => ?_)
            have k_71 : σ_70 b_63 x_66.toNatClampNeg = x_69 := by rw [eσ_70]; exact up2_same _ _ _ _
            obtain ⟨x_72, ex_72⟩ : ∃ y : Int32, y = i_41 + 1 := ⟨_, rfl⟩
            have vx_72 := b_add (rfl : i_41.toInt = _) (by decide : (1 : Int32).toInt = 1) ex_72 (by omega) (by omega)
            refine lv_iinc (v := x_72) (lv' := [(6, .int x_72), (4, .int 0), (5, .int i_28), (3, .int i_7), (2, .int (σ h0 21)), (0, .ref h0), (1, .int p1)]) hx hb dX12_fillsFits_100 hl (k := 0) rfl (by rw [ex_72]; rfl) (by decide) rfl (fun ls hl => ?_)
            refine lv_goto (tgt := 63) hx hb dX12_fillsFits_103 (by decide) ?_
            have k_73 : σ_70 h0 2 = (σ h0 2) := by rw [eσ_70, up2_nea _ _ (tg_ne th0 tb_63 (by decide))]; exact k_45
            have k_74 : σ_70 h0 21 = i_7 := by rw [eσ_70, up2_nea _ _ (tg_ne th0 tb_63 (by decide))]; exact k_46
            exact ih_44 ⟨x_72, σ_70, ρ_68⟩ _ _ _ ⟨(by omega), (by omega), k_73, k_74, hB, hS, lv_sub hl [0, 1, 2, 3, 4, 5, 6] rfl⟩ (by show (8 - x_72.toInt).toNat < (8 - i_41.toInt).toNat; omega)
      · skip
        have uc_40 := i_ne (n := 0) (by decide) c_40
        refine lv_aload_n hx hb dX12_fillsFits_46 rfl (lv_at hl 4 rfl) ?_
        refine t_ci (va_runV (As := []) (rest := []) ⟨hx, hb, hml, hown, hts⟩ (cy_X12_areNotesSo l D cA L T r hG hLA.1 σ_29 ρ_30 hB.2.1 _ h0 mh0 th0) (cV hts mv_X12_areNotesSo mw_8_94 rfl rfl ⟨Nat.le_of_ble_eq_true rfl, Nat.le_of_ble_eq_true rfl⟩) (pV hB.1 hK hN mh0 th0 (show shp cA 12 _ _ _ = .inr (12, Fs12 _ _ _) from rfl) rfl) rfl rfl hl.1 rfl (lv_room (Nat.le_of_ble_eq_true rfl)) dX12_fillsFits_47 ⟨Nat.le_of_ble_eq_true rfl, Nat.le_of_ble_eq_true rfl⟩) hLA hA hB hS (by decide) (fun x_77 σ_75 ρ_76 H locs hB fσ_75 pσ_75 hS => ?_)
        have qσ_75 := FR.nil fσ_75
        subst qσ_75
        obtain ⟨lx_77, ux_77⟩ := pσ_75
        refine lv_if_eq (tgt := 57) hx hb dX12_fillsFits_50 (by decide) (fun c_78 => ?_) (fun c_78 => ?_)
        · skip
          have uc_78 := i_eq (n := 0) (by decide) c_78
          refine lv_iconst (v := 0) hx hb dX12_fillsFits_57 (by decide) ?_
          refine lv_istore (lv' := [(4, .int 0), (5, .int i_28), (3, .int i_7), (2, .int (σ h0 21)), (0, .ref h0), (1, .int p1)]) hx hb dX12_fillsFits_58 hl (by decide) rfl (fun ls hl => ?_)
          refine lv_iconst (v := 0) hx hb dX12_fillsFits_60 (by decide) ?_
          refine lv_istore (lv' := [(6, .int 0), (4, .int 0), (5, .int i_28), (3, .int i_7), (2, .int (σ h0 21)), (0, .ref h0), (1, .int p1)]) hx hb dX12_fillsFits_61 hl (by decide) rfl (fun ls hl => ?_)
          refine w_loop (α := Int32 × Sg × Lg) (fun (i_79, σ_80, ρ_81) H locs ls => 0 ≤ i_79.toInt ∧ i_79.toInt ≤ 8 ∧ σ_80 h0 2 = (σ h0 2) ∧ σ_80 h0 21 = i_7 ∧ TS D cA L T r ry [(12, 18), (12, 21), (70, 1000), (71, 1000), (79, 1000), (80, 1000), (81, 1000)] σ σ_80 ρ_81 H ∧ va_S (dm L s.heap.size) s.heap H locs ∧ lv_has ls 7 [(6, .int i_79), (4, .int 0), (5, .int i_28), (3, .int i_7), (2, .int (σ h0 21)), (0, .ref h0), (1, .int p1)]) (fun (i_79, σ_80, ρ_81) => (8 - i_79.toInt).toNat) ?_ ⟨0, σ_29, ρ_76⟩ ⟨(by decide), (by decide), k_32, k_33, hB, hS, lv_sub hl [0, 1, 2, 3, 4, 5, 6] rfl⟩
          rintro ⟨i_79, σ_80, ρ_81⟩ H locs ls ⟨li_79, ui_79, k_83, k_84, hB, hS, hl⟩ ih_82
          refine lv_iload hx hb dX12_fillsFits_63 (lv_at hl 0 rfl) ?_
          refine lv_aload_n hx hb dX12_fillsFits_65 rfl (lv_at hl 5 rfl) ?_
          refine t_gr hx hb hts hown hK hG hB mh0 th0 fq_12_20 rfl mw_5_236 dX12_fillsFits_66 (fun b_85 hb_85 mb_85 tb_85 => ?_)
          refine lv_iconst (v := 2) hx hb dX12_fillsFits_69 (by decide) ?_
          refine t_aj hx hb hK hB mb_85 tb_85 ai_70 (i_in (by decide) (by decide)) dX12_fillsFits_70 (fun x_86 ex_86 lx_86 ux_86 => ?_)
          have lx_86 : 0 ≤ x_86.toInt := lx_86
          have ux_86 : x_86.toInt ≤ 8 := ux_86
          have cx_86 := congrArg Int32.toInt ex_86
          refine lv_icmp_ge (tgt := 106) hx hb dX12_fillsFits_71 (by decide) (fun c_87 => ?_) (fun c_87 => ?_)
          · skip
            have uc_87 := j_le c_87
            refine lv_aload_n hx hb dX12_fillsFits_106 rfl (lv_at hl 5 rfl) ?_
            refine t_ci (va_runV (As := []) (rest := []) ⟨hx, hb, hml, hown, hts⟩ (cy_X12_passes l D cA L T r hG hLA.1 σ_80 ρ_81 hB.2.1 _ h0 mh0 th0 bg hbg mbg tbg bk hbk mbk tbk bc hbc mbc tbc (by rw [FR.row hB.2.2 tbg (fun j => by simp), FR.row hB.2.2 tbk (fun j => by simp), FR.row hB.2.2 tbc (fun j => by simp), FR.at hB.2.2 th0 (by simp)]; exact w0) (by rw [k_84, k_83]; omega)) (cV hts mv_X12_passes mw_7_131 rfl rfl ⟨Nat.le_of_ble_eq_true rfl, Nat.le_of_ble_eq_true rfl⟩) (pV hB.1 hK hN mh0 th0 (show shp cA 12 _ _ _ = .inr (12, Fs12 _ _ _) from rfl) rfl) rfl rfl hl.1 rfl (lv_room (Nat.le_of_ble_eq_true rfl)) dX12_fillsFits_107 ⟨Nat.le_of_ble_eq_true rfl, Nat.le_of_ble_eq_true rfl⟩) hLA hA hB hS (by decide) (fun x_90 σ_88 ρ_89 H locs hB fσ_88 pσ_88 hS => ?_)
            refine lv_pop hx hb dX12_fillsFits_110 rfl ?_
            obtain ⟨x_91, ex_91⟩ : ∃ y : Int32, y = i_28 + 1 := ⟨_, rfl⟩
            have vx_91 := b_add (rfl : i_28.toInt = _) (by decide : (1 : Int32).toInt = 1) ex_91 (by omega) (by omega)
            refine lv_iinc (v := x_91) (lv' := [(5, .int x_91), (6, .int i_79), (4, .int 0), (3, .int i_7), (2, .int (σ h0 21)), (0, .ref h0), (1, .int p1)]) hx hb dX12_fillsFits_111 hl (k := 2) rfl (by rw [ex_91]; rfl) (by decide) rfl (fun ls hl => ?_)
            refine lv_goto (tgt := 34) hx hb dX12_fillsFits_114 (by decide) ?_
            have k_92 : σ_88 h0 2 = (σ h0 2) := (FR.at fσ_88 th0 (by decide)).trans k_83
            have k_93 : σ_88 h0 21 = i_7 := (FR.at fσ_88 th0 (by decide)).trans k_84
            exact ih_31 ⟨0, x_91, σ_88, ρ_89⟩ _ _ _ ⟨(by omega), (by omega), k_92, k_93, hB, hS, lv_sub hl [0, 2, 3, 4, 5, 6] rfl⟩ (by show (61 - x_91.toInt).toNat < (61 - i_28.toInt).toNat; omega)
          · skip
            have uc_87 := j_nle c_87
            refine lv_iload hx hb dX12_fillsFits_74 (lv_at hl 2 rfl) ?_
            refine lv_iload_n hx hb dX12_fillsFits_76 rfl (lv_at hl 6 rfl) ?_
            refine lv_icmp_ne (tgt := 106) hx hb dX12_fillsFits_77 (by decide) (fun c_94 => ?_) (fun c_94 => ?_)
            · skip
              have uc_94 := j_ne c_94
              refine lv_aload_n hx hb dX12_fillsFits_106 rfl (lv_at hl 5 rfl) ?_
              refine t_ci (va_runV (As := []) (rest := []) ⟨hx, hb, hml, hown, hts⟩ (cy_X12_passes l D cA L T r hG hLA.1 σ_80 ρ_81 hB.2.1 _ h0 mh0 th0 bg hbg mbg tbg bk hbk mbk tbk bc hbc mbc tbc (by rw [FR.row hB.2.2 tbg (fun j => by simp), FR.row hB.2.2 tbk (fun j => by simp), FR.row hB.2.2 tbc (fun j => by simp), FR.at hB.2.2 th0 (by simp)]; exact w0) (by rw [k_84, k_83]; omega)) (cV hts mv_X12_passes mw_7_131 rfl rfl ⟨Nat.le_of_ble_eq_true rfl, Nat.le_of_ble_eq_true rfl⟩) (pV hB.1 hK hN mh0 th0 (show shp cA 12 _ _ _ = .inr (12, Fs12 _ _ _) from rfl) rfl) rfl rfl hl.1 rfl (lv_room (Nat.le_of_ble_eq_true rfl)) dX12_fillsFits_107 ⟨Nat.le_of_ble_eq_true rfl, Nat.le_of_ble_eq_true rfl⟩) hLA hA hB hS (by decide) (fun x_97 σ_95 ρ_96 H locs hB fσ_95 pσ_95 hS => ?_)
              refine lv_pop hx hb dX12_fillsFits_110 rfl ?_
              obtain ⟨x_98, ex_98⟩ : ∃ y : Int32, y = i_28 + 1 := ⟨_, rfl⟩
              have vx_98 := b_add (rfl : i_28.toInt = _) (by decide : (1 : Int32).toInt = 1) ex_98 (by omega) (by omega)
              refine lv_iinc (v := x_98) (lv' := [(5, .int x_98), (6, .int i_79), (4, .int 0), (3, .int i_7), (2, .int (σ h0 21)), (0, .ref h0), (1, .int p1)]) hx hb dX12_fillsFits_111 hl (k := 2) rfl (by rw [ex_98]; rfl) (by decide) rfl (fun ls hl => ?_)
              refine lv_goto (tgt := 34) hx hb dX12_fillsFits_114 (by decide) ?_
              have k_99 : σ_95 h0 2 = (σ h0 2) := (FR.at fσ_95 th0 (by decide)).trans k_83
              have k_100 : σ_95 h0 21 = i_7 := (FR.at fσ_95 th0 (by decide)).trans k_84
              exact ih_31 ⟨0, x_98, σ_95, ρ_96⟩ _ _ _ ⟨(by omega), (by omega), k_99, k_100, hB, hS, lv_sub hl [0, 2, 3, 4, 5, 6] rfl⟩ (by show (61 - x_98.toInt).toNat < (61 - i_28.toInt).toNat; omega)
            · skip
              have uc_94 := j_eq c_94
              refine lv_aload_n hx hb dX12_fillsFits_80 rfl (lv_at hl 5 rfl) ?_
              refine t_gr hx hb hts hown hK hG hB mh0 th0 fq_12_38 rfl mw_6_14 dX12_fillsFits_81 (fun b_101 hb_101 mb_101 tb_101 => ?_)
              refine lv_bipush (v := 8) hx hb dX12_fillsFits_84 (by decide) ?_
              refine lv_iload_n hx hb dX12_fillsFits_86 rfl (lv_at hl 3 rfl) ?_
              refine lv_iconst (v := 1) hx hb dX12_fillsFits_87 (by decide) ?_
              refine lv_iadd hx hb dX12_fillsFits_88 ?_
              refine lv_topi (fun x_102 ex_102 => ?_)
              have vx_102 := b_add (rfl : i_7.toInt = _) (by decide : (1 : Int32).toInt = 1) ex_102 (by omega) (by omega)
              refine lv_imul hx hb dX12_fillsFits_89 ?_
              refine lv_topi (fun x_103 ex_103 => ?_)
              have vx_103 := b_mul (by decide : (8 : Int32).toInt = 8) (rfl : x_102.toInt = _) ex_103 (by omega) (by omega)
              refine lv_iload hx hb dX12_fillsFits_90 (lv_at hl 0 rfl) ?_
              refine lv_iadd hx hb dX12_fillsFits_92 ?_
              refine lv_topi (fun x_104 ex_104 => ?_)
              have vx_104 := b_add (rfl : x_103.toInt = _) (rfl : i_79.toInt = _) ex_104 (by omega) (by omega)
              refine lv_aload_n hx hb dX12_fillsFits_93 rfl (lv_at hl 5 rfl) ?_
              refine lv_iload hx hb dX12_fillsFits_94 (lv_at hl 0 rfl) ?_
              refine t_ci (va_runV (As := [.int i_79]) (rest := [.int x_104, .ref b_101]) ⟨hx, hb, hml, hown, hts⟩ (cy_X12_asksFor l D cA L T r hG hLA.1 σ_80 ρ_81 hB.2.1 _ h0 mh0 th0 i_79 (by first | omega | decide) (by first | omega | decide)) (cV hts mv_X12_asksFor mw_7_98 rfl rfl ⟨Nat.le_of_ble_eq_true rfl, Nat.le_of_ble_eq_true rfl⟩) (pV hB.1 hK hN mh0 th0 (show shp cA 12 _ _ _ = .inr (12, Fs12 _ _ _) from rfl) rfl) rfl rfl hl.1 rfl (lv_room (Nat.le_of_ble_eq_true rfl)) dX12_fillsFits_96 ⟨Nat.le_of_ble_eq_true rfl, Nat.le_of_ble_eq_true rfl⟩) hLA hA hB hS (by decide) (fun x_107 σ_105 ρ_106 H locs hB fσ_105 pσ_105 hS => ?_)
              have qσ_105 := FR.nil fσ_105
              subst qσ_105
              obtain ⟨lx_107, ux_107⟩ := pσ_105
              refine t_si hx hb hK hLA hB hS mb_101 tb_101 ai_81 (i_in (by omega) (by omega)) (i_lo _) (i_hi _) (Or.inr (by decide)) dX12_fillsFits_99 (fun H locs σ_108 eσ_108 hB hS => ?_)
              have k_109 : σ_108 b_101 x_104.toNatClampNeg = x_107 := by rw [eσ_108]; exact up2_same _ _ _ _
              obtain ⟨x_110, ex_110⟩ : ∃ y : Int32, y = i_79 + 1 := ⟨_, rfl⟩
              have vx_110 := b_add (rfl : i_79.toInt = _) (by decide : (1 : Int32).toInt = 1) ex_110 (by omega) (by omega)
              refine lv_iinc (v := x_110) (lv' := [(6, .int x_110), (4, .int 0), (5, .int i_28), (3, .int i_7), (2, .int (σ h0 21)), (0, .ref h0), (1, .int p1)]) hx hb dX12_fillsFits_100 hl (k := 0) rfl (by rw [ex_110]; rfl) (by decide) rfl (fun ls hl => ?_)
              refine lv_goto (tgt := 63) hx hb dX12_fillsFits_103 (by decide) ?_
              have k_111 : σ_108 h0 2 = (σ h0 2) := by rw [eσ_108, up2_nea _ _ (tg_ne th0 tb_101 (by decide))]; exact k_83
              have k_112 : σ_108 h0 21 = i_7 := by rw [eσ_108, up2_nea _ _ (tg_ne th0 tb_101 (by decide))]; exact k_84
              exact ih_82 ⟨x_110, σ_108, ρ_106⟩ _ _ _ ⟨(by omega), (by omega), k_111, k_112, hB, hS, lv_sub hl [0, 1, 2, 3, 4, 5, 6] rfl⟩ (by show (8 - x_110.toInt).toNat < (8 - i_79.toInt).toNat; omega)
        · skip
          have uc_78 := i_ne (n := 0) (by decide) c_78
          refine lv_iconst (v := 1) hx hb dX12_fillsFits_53 (by decide) ?_
          refine lv_goto (tgt := 58) hx hb dX12_fillsFits_54 (by decide) ?_
          refine lv_istore (lv' := [(4, .int 1), (5, .int i_28), (3, .int i_7), (2, .int (σ h0 21)), (0, .ref h0), (1, .int p1)]) hx hb dX12_fillsFits_58 hl (by decide) rfl (fun ls hl => ?_)
          refine lv_iconst (v := 0) hx hb dX12_fillsFits_60 (by decide) ?_
          refine lv_istore (lv' := [(6, .int 0), (4, .int 1), (5, .int i_28), (3, .int i_7), (2, .int (σ h0 21)), (0, .ref h0), (1, .int p1)]) hx hb dX12_fillsFits_61 hl (by decide) rfl (fun ls hl => ?_)
          refine w_loop (α := Int32 × Sg × Lg) (fun (i_113, σ_114, ρ_115) H locs ls => 0 ≤ i_113.toInt ∧ i_113.toInt ≤ 8 ∧ σ_114 h0 2 = (σ h0 2) ∧ σ_114 h0 21 = i_7 ∧ TS D cA L T r ry [(12, 18), (12, 21), (70, 1000), (71, 1000), (79, 1000), (80, 1000), (81, 1000)] σ σ_114 ρ_115 H ∧ va_S (dm L s.heap.size) s.heap H locs ∧ lv_has ls 7 [(6, .int i_113), (4, .int 1), (5, .int i_28), (3, .int i_7), (2, .int (σ h0 21)), (0, .ref h0), (1, .int p1)]) (fun (i_113, σ_114, ρ_115) => (8 - i_113.toInt).toNat) ?_ ⟨0, σ_29, ρ_76⟩ ⟨(by decide), (by decide), k_32, k_33, hB, hS, lv_sub hl [0, 1, 2, 3, 4, 5, 6] rfl⟩
          rintro ⟨i_113, σ_114, ρ_115⟩ H locs ls ⟨li_113, ui_113, k_117, k_118, hB, hS, hl⟩ ih_116
          refine lv_iload hx hb dX12_fillsFits_63 (lv_at hl 0 rfl) ?_
          refine lv_aload_n hx hb dX12_fillsFits_65 rfl (lv_at hl 5 rfl) ?_
          refine t_gr hx hb hts hown hK hG hB mh0 th0 fq_12_20 rfl mw_5_236 dX12_fillsFits_66 (fun b_119 hb_119 mb_119 tb_119 => ?_)
          refine lv_iconst (v := 2) hx hb dX12_fillsFits_69 (by decide) ?_
          refine t_aj hx hb hK hB mb_119 tb_119 ai_70 (i_in (by decide) (by decide)) dX12_fillsFits_70 (fun x_120 ex_120 lx_120 ux_120 => ?_)
          have lx_120 : 0 ≤ x_120.toInt := lx_120
          have ux_120 : x_120.toInt ≤ 8 := ux_120
          have cx_120 := congrArg Int32.toInt ex_120
          refine lv_icmp_ge (tgt := 106) hx hb dX12_fillsFits_71 (by decide) (fun c_121 => ?_) (fun c_121 => ?_)
          · skip
            have uc_121 := j_le c_121
            refine lv_aload_n hx hb dX12_fillsFits_106 rfl (lv_at hl 5 rfl) ?_
            refine t_ci (va_runV (As := []) (rest := []) ⟨hx, hb, hml, hown, hts⟩ (cy_X12_passes l D cA L T r hG hLA.1 σ_114 ρ_115 hB.2.1 _ h0 mh0 th0 bg hbg mbg tbg bk hbk mbk tbk bc hbc mbc tbc (by rw [FR.row hB.2.2 tbg (fun j => by simp), FR.row hB.2.2 tbk (fun j => by simp), FR.row hB.2.2 tbc (fun j => by simp), FR.at hB.2.2 th0 (by simp)]; exact w0) (by rw [k_118, k_117]; omega)) (cV hts mv_X12_passes mw_7_131 rfl rfl ⟨Nat.le_of_ble_eq_true rfl, Nat.le_of_ble_eq_true rfl⟩) (pV hB.1 hK hN mh0 th0 (show shp cA 12 _ _ _ = .inr (12, Fs12 _ _ _) from rfl) rfl) rfl rfl hl.1 rfl (lv_room (Nat.le_of_ble_eq_true rfl)) dX12_fillsFits_107 ⟨Nat.le_of_ble_eq_true rfl, Nat.le_of_ble_eq_true rfl⟩) hLA hA hB hS (by decide) (fun x_124 σ_122 ρ_123 H locs hB fσ_122 pσ_122 hS => ?_)
            refine lv_pop hx hb dX12_fillsFits_110 rfl ?_
            obtain ⟨x_125, ex_125⟩ : ∃ y : Int32, y = i_28 + 1 := ⟨_, rfl⟩
            have vx_125 := b_add (rfl : i_28.toInt = _) (by decide : (1 : Int32).toInt = 1) ex_125 (by omega) (by omega)
            refine lv_iinc (v := x_125) (lv' := [(5, .int x_125), (6, .int i_113), (4, .int 1), (3, .int i_7), (2, .int (σ h0 21)), (0, .ref h0), (1, .int p1)]) hx hb dX12_fillsFits_111 hl (k := 2) rfl (by rw [ex_125]; rfl) (by decide) rfl (fun ls hl => ?_)
            refine lv_goto (tgt := 34) hx hb dX12_fillsFits_114 (by decide) ?_
            have k_126 : σ_122 h0 2 = (σ h0 2) := (FR.at fσ_122 th0 (by decide)).trans k_117
            have k_127 : σ_122 h0 21 = i_7 := (FR.at fσ_122 th0 (by decide)).trans k_118
            exact ih_31 ⟨1, x_125, σ_122, ρ_123⟩ _ _ _ ⟨(by omega), (by omega), k_126, k_127, hB, hS, lv_sub hl [0, 2, 3, 4, 5, 6] rfl⟩ (by show (61 - x_125.toInt).toNat < (61 - i_28.toInt).toNat; omega)
          · skip
            have uc_121 := j_nle c_121
            refine lv_iload hx hb dX12_fillsFits_74 (lv_at hl 2 rfl) ?_
            refine lv_iload_n hx hb dX12_fillsFits_76 rfl (lv_at hl 6 rfl) ?_
            refine lv_icmp_ne (tgt := 106) hx hb dX12_fillsFits_77 (by decide) (fun c_128 => ?_) (fun c_128 => ?_)
            · skip
              have uc_128 := j_ne c_128
              refine lv_aload_n hx hb dX12_fillsFits_106 rfl (lv_at hl 5 rfl) ?_
              refine t_ci (va_runV (As := []) (rest := []) ⟨hx, hb, hml, hown, hts⟩ (cy_X12_passes l D cA L T r hG hLA.1 σ_114 ρ_115 hB.2.1 _ h0 mh0 th0 bg hbg mbg tbg bk hbk mbk tbk bc hbc mbc tbc (by rw [FR.row hB.2.2 tbg (fun j => by simp), FR.row hB.2.2 tbk (fun j => by simp), FR.row hB.2.2 tbc (fun j => by simp), FR.at hB.2.2 th0 (by simp)]; exact w0) (by rw [k_118, k_117]; omega)) (cV hts mv_X12_passes mw_7_131 rfl rfl ⟨Nat.le_of_ble_eq_true rfl, Nat.le_of_ble_eq_true rfl⟩) (pV hB.1 hK hN mh0 th0 (show shp cA 12 _ _ _ = .inr (12, Fs12 _ _ _) from rfl) rfl) rfl rfl hl.1 rfl (lv_room (Nat.le_of_ble_eq_true rfl)) dX12_fillsFits_107 ⟨Nat.le_of_ble_eq_true rfl, Nat.le_of_ble_eq_true rfl⟩) hLA hA hB hS (by decide) (fun x_131 σ_129 ρ_130 H locs hB fσ_129 pσ_129 hS => ?_)
              refine lv_pop hx hb dX12_fillsFits_110 rfl ?_
              obtain ⟨x_132, ex_132⟩ : ∃ y : Int32, y = i_28 + 1 := ⟨_, rfl⟩
              have vx_132 := b_add (rfl : i_28.toInt = _) (by decide : (1 : Int32).toInt = 1) ex_132 (by omega) (by omega)
              refine lv_iinc (v := x_132) (lv' := [(5, .int x_132), (6, .int i_113), (4, .int 1), (3, .int i_7), (2, .int (σ h0 21)), (0, .ref h0), (1, .int p1)]) hx hb dX12_fillsFits_111 hl (k := 2) rfl (by rw [ex_132]; rfl) (by decide) rfl (fun ls hl => ?_)
              refine lv_goto (tgt := 34) hx hb dX12_fillsFits_114 (by decide) ?_
              have k_133 : σ_129 h0 2 = (σ h0 2) := (FR.at fσ_129 th0 (by decide)).trans k_117
              have k_134 : σ_129 h0 21 = i_7 := (FR.at fσ_129 th0 (by decide)).trans k_118
              exact ih_31 ⟨1, x_132, σ_129, ρ_130⟩ _ _ _ ⟨(by omega), (by omega), k_133, k_134, hB, hS, lv_sub hl [0, 2, 3, 4, 5, 6] rfl⟩ (by show (61 - x_132.toInt).toNat < (61 - i_28.toInt).toNat; omega)
            · skip
              have uc_128 := j_eq c_128
              refine lv_aload_n hx hb dX12_fillsFits_80 rfl (lv_at hl 5 rfl) ?_
              refine t_gr hx hb hts hown hK hG hB mh0 th0 fq_12_38 rfl mw_6_14 dX12_fillsFits_81 (fun b_135 hb_135 mb_135 tb_135 => ?_)
              refine lv_bipush (v := 8) hx hb dX12_fillsFits_84 (by decide) ?_
              refine lv_iload_n hx hb dX12_fillsFits_86 rfl (lv_at hl 3 rfl) ?_
              refine lv_iconst (v := 1) hx hb dX12_fillsFits_87 (by decide) ?_
              refine lv_iadd hx hb dX12_fillsFits_88 ?_
              refine lv_topi (fun x_136 ex_136 => ?_)
              have vx_136 := b_add (rfl : i_7.toInt = _) (by decide : (1 : Int32).toInt = 1) ex_136 (by omega) (by omega)
              refine lv_imul hx hb dX12_fillsFits_89 ?_
              refine lv_topi (fun x_137 ex_137 => ?_)
              have vx_137 := b_mul (by decide : (8 : Int32).toInt = 8) (rfl : x_136.toInt = _) ex_137 (by omega) (by omega)
              refine lv_iload hx hb dX12_fillsFits_90 (lv_at hl 0 rfl) ?_
              refine lv_iadd hx hb dX12_fillsFits_92 ?_
              refine lv_topi (fun x_138 ex_138 => ?_)
              have vx_138 := b_add (rfl : x_137.toInt = _) (rfl : i_113.toInt = _) ex_138 (by omega) (by omega)
              refine lv_aload_n hx hb dX12_fillsFits_93 rfl (lv_at hl 5 rfl) ?_
              refine lv_iload hx hb dX12_fillsFits_94 (lv_at hl 0 rfl) ?_
              refine t_ci (va_runV (As := [.int i_113]) (rest := [.int x_138, .ref b_135]) ⟨hx, hb, hml, hown, hts⟩ (cy_X12_asksFor l D cA L T r hG hLA.1 σ_114 ρ_115 hB.2.1 _ h0 mh0 th0 i_113 (by first | omega | decide) (by first | omega | decide)) (cV hts mv_X12_asksFor mw_7_98 rfl rfl ⟨Nat.le_of_ble_eq_true rfl, Nat.le_of_ble_eq_true rfl⟩) (pV hB.1 hK hN mh0 th0 (show shp cA 12 _ _ _ = .inr (12, Fs12 _ _ _) from rfl) rfl) rfl rfl hl.1 rfl (lv_room (Nat.le_of_ble_eq_true rfl)) dX12_fillsFits_96 ⟨Nat.le_of_ble_eq_true rfl, Nat.le_of_ble_eq_true rfl⟩) hLA hA hB hS (by decide) (fun x_141 σ_139 ρ_140 H locs hB fσ_139 pσ_139 hS => ?_)
              have qσ_139 := FR.nil fσ_139
              subst qσ_139
              obtain ⟨lx_141, ux_141⟩ := pσ_139
              refine t_si hx hb hK hLA hB hS mb_135 tb_135 ai_81 (i_in (by omega) (by omega)) (i_lo _) (i_hi _) (Or.inr (by decide)) dX12_fillsFits_99 (fun H locs σ_142 eσ_142 hB hS => ?_)
              have k_143 : σ_142 b_135 x_138.toNatClampNeg = x_141 := by rw [eσ_142]; exact up2_same _ _ _ _
              obtain ⟨x_144, ex_144⟩ : ∃ y : Int32, y = i_113 + 1 := ⟨_, rfl⟩
              have vx_144 := b_add (rfl : i_113.toInt = _) (by decide : (1 : Int32).toInt = 1) ex_144 (by omega) (by omega)
              refine lv_iinc (v := x_144) (lv' := [(6, .int x_144), (4, .int 1), (5, .int i_28), (3, .int i_7), (2, .int (σ h0 21)), (0, .ref h0), (1, .int p1)]) hx hb dX12_fillsFits_100 hl (k := 0) rfl (by rw [ex_144]; rfl) (by decide) rfl (fun ls hl => ?_)
              refine lv_goto (tgt := 63) hx hb dX12_fillsFits_103 (by decide) ?_
              have k_145 : σ_142 h0 2 = (σ h0 2) := by rw [eσ_142, up2_nea _ _ (tg_ne th0 tb_135 (by decide))]; exact k_117
              have k_146 : σ_142 h0 21 = i_7 := by rw [eσ_142, up2_nea _ _ (tg_ne th0 tb_135 (by decide))]; exact k_118
              exact ih_116 ⟨x_144, σ_142, ρ_140⟩ _ _ _ ⟨(by omega), (by omega), k_145, k_146, hB, hS, lv_sub hl [0, 1, 2, 3, 4, 5, 6] rfl⟩ (by show (8 - x_144.toInt).toNat < (8 - i_113.toInt).toNat; omega)
theorem mw_8_84 : (.instanceMethod yX12_fillsFits : Cond) ∈ wsA := wsA_t (List.mem_append_right _ (List.mem_append_right _ (List.mem_append_right _ (List.mem_append_right _ (List.mem_append_right _ (List.mem_append_right _ (List.mem_append_right _ (List.mem_of_getElem? (l := tables_1_8) (i := 84) rfl)))))))) rfl
theorem mp_8_4 : (.selects RX12 yX12_fillsFits yX12_fillsFits : Cond) ∈ wsA := wsA_p (q := (yX12_fillsFits, 44)) (List.mem_append_right _ (List.mem_append_right _ (List.mem_append_right _ (List.mem_append_right _ (List.mem_append_right _ (List.mem_append_right _ (List.mem_append_right _ (List.mem_of_getElem? (l := lw_privs_8) (i := 4) rfl))))))))
theorem mw_8_85 : (.code yX12_fillsFits cX12_fillsFits 7 none : Cond) ∈ wsA := wsA_t (List.mem_append_right _ (List.mem_append_right _ (List.mem_append_right _ (List.mem_append_right _ (List.mem_append_right _ (List.mem_append_right _ (List.mem_append_right _ (List.mem_of_getElem? (l := tables_1_8) (i := 85) rfl)))))))) rfl
theorem mw_8_82 : (.methodLink RX12 454 yX12_fillsFits : Cond) ∈ wsA := wsA_t (List.mem_append_right _ (List.mem_append_right _ (List.mem_append_right _ (List.mem_append_right _ (List.mem_append_right _ (List.mem_append_right _ (List.mem_append_right _ (List.mem_of_getElem? (l := tables_1_8) (i := 82) rfl)))))))) rfl
theorem dX12_ruled_0 : decode cX12_ruled 0 = .ok (.aload_n 0, 1) := by decide +kernel
theorem dX12_ruled_1 : decode cX12_ruled 1 = .ok (.invokevirtual 354, 3) := by decide +kernel
theorem dX12_ruled_4 : decode cX12_ruled 4 = .ok (.ifCond .eq 13, 3) := by decide +kernel
theorem dX12_ruled_17 : decode cX12_ruled 17 = .ok (.bipush (-3), 2) := by decide +kernel
theorem dX12_ruled_19 : decode cX12_ruled 19 = .ok (.ireturn, 1) := by decide +kernel
theorem dX12_ruled_7 : decode cX12_ruled 7 = .ok (.iload_n 1, 1) := by decide +kernel
theorem dX12_ruled_8 : decode cX12_ruled 8 = .ok (.i2l, 1) := by decide +kernel
theorem dX12_ruled_9 : decode cX12_ruled 9 = .ok (.lconst 0, 1) := by decide +kernel
theorem dX12_ruled_10 : decode cX12_ruled 10 = .ok (.lconst 1, 1) := by decide +kernel
theorem dX12_ruled_11 : decode cX12_ruled 11 = .ok (.invokestatic 130, 3) := by decide +kernel
theorem dX12_ruled_14 : decode cX12_ruled 14 = .ok (.ifCond .ne 6, 3) := by decide +kernel
theorem dX12_ruled_20 : decode cX12_ruled 20 = .ok (.aload_n 0, 1) := by decide +kernel
theorem dX12_ruled_21 : decode cX12_ruled 21 = .ok (.iconst 0, 1) := by decide +kernel
theorem dX12_ruled_22 : decode cX12_ruled 22 = .ok (.invokevirtual 454, 3) := by decide +kernel
theorem dX12_ruled_25 : decode cX12_ruled 25 = .ok (.iconst 0, 1) := by decide +kernel
theorem dX12_ruled_26 : decode cX12_ruled 26 = .ok (.istore_n 2, 1) := by decide +kernel
theorem dX12_ruled_27 : decode cX12_ruled 27 = .ok (.bipush (-2), 2) := by decide +kernel
theorem dX12_ruled_29 : decode cX12_ruled 29 = .ok (.istore_n 3, 1) := by decide +kernel
theorem dX12_ruled_30 : decode cX12_ruled 30 = .ok (.aload_n 0, 1) := by decide +kernel
theorem dX12_ruled_31 : decode cX12_ruled 31 = .ok (.getfield 276, 3) := by decide +kernel
theorem dX12_ruled_34 : decode cX12_ruled 34 = .ok (.istore 4, 2) := by decide +kernel
theorem dX12_ruled_36 : decode cX12_ruled 36 = .ok (.iload 4, 2) := by decide +kernel
theorem dX12_ruled_38 : decode cX12_ruled 38 = .ok (.ifCond .lt 30, 3) := by decide +kernel
theorem dX12_ruled_68 : decode cX12_ruled 68 = .ok (.iload_n 1, 1) := by decide +kernel
theorem dX12_ruled_69 : decode cX12_ruled 69 = .ok (.ifCond .ne 7, 3) := by decide +kernel
theorem dX12_ruled_76 : decode cX12_ruled 76 = .ok (.iload_n 3, 1) := by decide +kernel
theorem dX12_ruled_77 : decode cX12_ruled 77 = .ok (.ireturn, 1) := by decide +kernel
theorem dX12_ruled_72 : decode cX12_ruled 72 = .ok (.iload_n 2, 1) := by decide +kernel
theorem dX12_ruled_73 : decode cX12_ruled 73 = .ok (.goto 4, 3) := by decide +kernel
theorem dX12_ruled_41 : decode cX12_ruled 41 = .ok (.aload_n 0, 1) := by decide +kernel
theorem dX12_ruled_42 : decode cX12_ruled 42 = .ok (.getfield 73, 3) := by decide +kernel
theorem dX12_ruled_45 : decode cX12_ruled 45 = .ok (.iload 4, 2) := by decide +kernel
theorem dX12_ruled_47 : decode cX12_ruled 47 = .ok (.baload, 1) := by decide +kernel
theorem dX12_ruled_48 : decode cX12_ruled 48 = .ok (.ifCond .ne 6, 3) := by decide +kernel
theorem dX12_ruled_54 : decode cX12_ruled 54 = .ok (.iload 4, 2) := by decide +kernel
theorem dX12_ruled_56 : decode cX12_ruled 56 = .ok (.iconst 1, 1) := by decide +kernel
theorem dX12_ruled_57 : decode cX12_ruled 57 = .ok (.isub, 1) := by decide +kernel
theorem dX12_ruled_58 : decode cX12_ruled 58 = .ok (.istore_n 3, 1) := by decide +kernel
theorem dX12_ruled_59 : decode cX12_ruled 59 = .ok (.iinc 2 1, 3) := by decide +kernel
theorem dX12_ruled_62 : decode cX12_ruled 62 = .ok (.iinc 4 (-1), 3) := by decide +kernel
theorem dX12_ruled_65 : decode cX12_ruled 65 = .ok (.goto (-29), 3) := by decide +kernel
theorem dX12_ruled_51 : decode cX12_ruled 51 = .ok (.goto 11, 3) := by decide +kernel
theorem mv_X12_fillsFits : MV RX12 yX12_fillsFits cX12_fillsFits 7 none 1 := ⟨mw_8_84, mp_8_4, mw_1_13, mw_8_85, ⟨rfl, by decide, by decide, by decide +kernel⟩⟩
set_option maxHeartbeats 4000000 in
set_option maxRecDepth 100000 in
theorem cy_X12_ruled (l : Launch) (D : va_G) (cA : Nat → ClassId) (L : List Nat) (T : Nat → Nat) (r : Rg) (hG : GR L T r) (hL : L.Nodup) (σ : Sg) (ρ : Lg) (hW : WT L ry T σ) (sz : Nat) (h0 : Nat) (mh0 : h0 ∈ L) (th0 : T h0 = 12) (p1 : Int32) (bg : Nat) (hbg : r h0 3 = some bg) (mbg : bg ∈ L) (tbg : T bg = 62) (bk : Nat) (hbk : r h0 5 = some bk) (mbk : bk ∈ L) (tbk : T bk = 64) (bc : Nat) (hbc : r h0 6 = some bc) (mbc : bc ∈ L) (tbc : T bc = 65) (w0 : WR (σ bg) (σ bk) (σ bc) (σ h0 2).toInt.toNat) : Met l yX12_ruled (.code yX12_ruled cX12_ruled 5 (some .int) :: wsA) ({ frames := 5, cells := 0, slots := 0, locals := 126 }) (PR D cA L T r σ ρ sz [.ref h0, .int p1]) (QI D cA L T r ry [(12, 18), (12, 21), (70, 1000), (71, 1000), (79, 1000), (80, 1000), (81, 1000)] σ sz (fun x σ1 => (σ1 h0 21 = σ h0 21))) 0 0 (dm L sz) := by
  refine Met.ofW (cc := cX12_ruled) (maxL := 5) (ret := (some .int)) (by decide) rfl ?_
  intro p e s m args below meth c s₁ B hml hv
  obtain ⟨rfl, hsz, hP, hK, hN⟩ := hv
  have hx := B.exec
  have hb := B.bytes
  have hr := B.returns
  have hts : ∀ w ∈ wsA, w.before _ s = true := fun w h => atoms_spec (ws := .code yX12_ruled cX12_ruled 5 (some .int) :: wsA) B.pre w (List.mem_cons_of_mem _ h)
  have hown : s.vm.findClass RX12 = some m.cls := findClass_of_methodNamed B.named
  subst hsz
  have hLA : LA (dm L s.heap.size) L := ⟨hL, fun a h => Or.inl h⟩
  have hA : ∀ q : Nat, s.heap.size ≤ q → dm L s.heap.size q := fun q h => Or.inr h
  have hS : va_S (dm L s.heap.size) s.heap s.heap [] := va_S.rf
  have hB : TS D cA L T r ry [(12, 18), (12, 21), (70, 1000), (71, 1000), (79, 1000), (80, 1000), (81, 1000)] σ σ ρ s.heap := ⟨hP, hW, FR.rf⟩
  have hl := lv_entry ([.ref h0, .int p1]) (n := 5) (Nat.le_of_ble_eq_true rfl)
  rw [lg_entry_eq]
  generalize (lg_sl ([.ref h0, .int p1]) ++ List.replicate (5 - (lg_sl ([.ref h0, .int p1])).length) Slot.unset).toArray = ls at hl ⊢
  have hl : lv_has ls 5 [(0, .ref h0), (1, .int p1)] := hl
  have w_1 : (-1) ≤ (σ h0 21).toInt ∧ (σ h0 21).toInt ≤ 5 := by have z := hB.2.1 h0 mh0 21; rw [th0] at z; exact z
  refine lv_aload_n hx hb dX12_ruled_0 rfl (lv_at hl 0 rfl) ?_
  refine t_ci (va_runV (As := []) (rest := []) ⟨hx, hb, hml, hown, hts⟩ (cy_X12_isHill l D cA L T r hG hLA.1 σ ρ hB.2.1 _ h0 mh0 th0) (cV hts mv_X12_isHill mw_7_123 rfl rfl ⟨Nat.le_of_ble_eq_true rfl, Nat.le_of_ble_eq_true rfl⟩) (pV hB.1 hK hN mh0 th0 (show shp cA 12 _ _ _ = .inr (12, Fs12 _ _ _) from rfl) rfl) rfl rfl hl.1 rfl (lv_room (Nat.le_of_ble_eq_true rfl)) dX12_ruled_1 ⟨Nat.le_of_ble_eq_true rfl, Nat.le_of_ble_eq_true rfl⟩) hLA hA hB hS (by decide) (fun x_4 σ_2 ρ_3 H locs hB fσ_2 pσ_2 hS => ?_)
  have qσ_2 := FR.nil fσ_2
  subst qσ_2
  obtain ⟨lx_4, ux_4⟩ := pσ_2
  refine lv_if_eq (tgt := 17) hx hb dX12_ruled_4 (by decide) (fun c_5 => ?_) (fun c_5 => ?_)
  · skip
    have uc_5 := i_eq (n := 0) (by decide) c_5
    refine lv_bipush (v := (-3)) hx hb dX12_ruled_17 (by decide) ?_
    exact W.iret (v := (-3)) hx hb hr (fun t ht hW => ⟨⟨(-3), (σ, ρ_3), rfl, ⟨hB.2.1, hB.2.2, (show σ h0 21 = σ h0 21 from rfl)⟩, (show TP D cA L T r σ ρ_3 t.heap from by rw [ht]; exact hB.1)⟩, hS.F ht⟩) hS.2.2 dX12_ruled_19
  · skip
    have uc_5 := i_ne (n := 0) (by decide) c_5
    refine lv_iload_n hx hb dX12_ruled_7 rfl (lv_at hl 1 rfl) ?_
    refine lv_i2l (v := p1.toInt64) hx hb dX12_ruled_8 rfl ?_
    refine lv_lconst (v := 0) hx hb dX12_ruled_9 (by decide) ?_
    refine lv_lconst (v := 1) hx hb dX12_ruled_10 (by decide) ?_
    refine t_ci (va_runS (As := [.long p1.toInt64, .long 0, .long 1]) (rest := []) ⟨hx, hb, hml, hown, hts⟩ (cy_X12_in_0_1 l D cA L T r hG hLA.1 σ ρ_3 hB.2.1 _ p1) (cS hts ms_X12_in mw_6_185 rfl rfl ⟨Nat.le_of_ble_eq_true rfl, Nat.le_of_ble_eq_true rfl⟩) (pS hB.1 hK hN) rfl rfl hl.1 rfl (lv_room (Nat.le_of_ble_eq_true rfl)) dX12_ruled_11 ⟨Nat.le_of_ble_eq_true rfl, Nat.le_of_ble_eq_true rfl⟩) hLA hA hB hS (by decide) (fun x_8 σ_6 ρ_7 H locs hB fσ_6 pσ_6 hS => ?_)
    have qσ_6 := FR.nil fσ_6
    subst qσ_6
    obtain ⟨ox_8, ix_8⟩ := pσ_6
    refine lv_if_ne (tgt := 20) hx hb dX12_ruled_14 (by decide) (fun c_9 => ?_) (fun c_9 => ?_)
    · skip
      have uc_9 := i_ne (n := 0) (by decide) c_9
      refine lv_aload_n hx hb dX12_ruled_20 rfl (lv_at hl 0 rfl) ?_
      refine lv_iconst (v := 0) hx hb dX12_ruled_21 (by decide) ?_
      refine t_cv (va_runV (As := [.int 0]) (rest := []) ⟨hx, hb, hml, hown, hts⟩ (cy_X12_fillsFits l D cA L T r hG hLA.1 σ ρ_7 hB.2.1 _ h0 mh0 th0 0 bg hbg mbg tbg bk hbk mbk tbk bc hbc mbc tbc (by rw [FR.row hB.2.2 tbg (fun j => by simp), FR.row hB.2.2 tbk (fun j => by simp), FR.row hB.2.2 tbc (fun j => by simp), FR.at hB.2.2 th0 (by simp)]; exact w0)) (cV hts mv_X12_fillsFits mw_8_82 rfl rfl ⟨Nat.le_of_ble_eq_true rfl, Nat.le_of_ble_eq_true rfl⟩) (pV hB.1 hK hN mh0 th0 (show shp cA 12 _ _ _ = .inr (12, Fs12 _ _ _) from rfl) rfl) rfl rfl hl.1 rfl (lv_room (Nat.le_of_ble_eq_true rfl)) dX12_ruled_22 ⟨Nat.le_of_ble_eq_true rfl, Nat.le_of_ble_eq_true rfl⟩) hLA hA hB hS (by decide) (fun σ_10 ρ_11 H locs hB fσ_10 pσ_10 hS => ?_)
      refine lv_iconst (v := 0) hx hb dX12_ruled_25 (by decide) ?_
      refine lv_istore_n (lv' := [(2, .int 0), (0, .ref h0), (1, .int p1)]) hx hb dX12_ruled_26 rfl hl (by decide) rfl (fun ls hl => ?_)
      refine lv_bipush (v := (-2)) hx hb dX12_ruled_27 (by decide) ?_
      refine lv_istore_n (lv' := [(3, .int (-2)), (2, .int 0), (0, .ref h0), (1, .int p1)]) hx hb dX12_ruled_29 rfl hl (by decide) rfl (fun ls hl => ?_)
      refine lv_aload_n hx hb dX12_ruled_30 rfl (lv_at hl 2 rfl) ?_
      refine t_gi hx hb hts hown hK hB mh0 th0 fi_12_2 rfl mw_5_218 dX12_ruled_31 (fun x_13 ex_13 lx_13 ux_13 => ?_)
      have cx_13 := congrArg Int32.toInt ex_13
      refine lv_istore (lv' := [(4, .int x_13), (3, .int (-2)), (2, .int 0), (0, .ref h0), (1, .int p1)]) hx hb dX12_ruled_34 hl (by decide) rfl (fun ls hl => ?_)
      refine w_loop (α := Int32 × Int32 × Int32 × Sg × Lg) (fun (i_14, i_15, i_16, σ_17, ρ_18) H locs ls => (-1) ≤ i_16.toInt ∧ i_16.toInt ≤ 6 ∧ σ_17 h0 21 = (σ h0 21) ∧ σ_17 h0 2 = x_13 ∧ TS D cA L T r ry [(12, 18), (12, 21), (70, 1000), (71, 1000), (79, 1000), (80, 1000), (81, 1000)] σ σ_17 ρ_18 H ∧ va_S (dm L s.heap.size) s.heap H locs ∧ lv_has ls 5 [(4, .int i_16), (3, .int i_15), (2, .int i_14), (0, .ref h0), (1, .int p1)]) (fun (i_14, i_15, i_16, σ_17, ρ_18) => (i_16.toInt + 1).toNat) ?_ ⟨0, (-2), x_13, σ_10, ρ_11⟩ ⟨(by omega), (by omega), pσ_10, ex_13.symm, hB, hS, lv_sub hl [0, 1, 2, 3, 4] rfl⟩
      rintro ⟨i_14, i_15, i_16, σ_17, ρ_18⟩ H locs ls ⟨li_16, ui_16, k_20, k_21, hB, hS, hl⟩ ih_19
      refine lv_iload hx hb dX12_ruled_36 (lv_at hl 0 rfl) ?_
      refine lv_if_lt (tgt := 68) hx hb dX12_ruled_38 (by decide) (fun c_22 => ?_) (fun c_22 => ?_)
      · skip
        have uc_22 := i_lt (n := 0) (by decide) c_22
        refine lv_iload_n hx hb dX12_ruled_68 rfl (lv_at hl 4 rfl) ?_
        refine lv_if_ne (tgt := 76) hx hb dX12_ruled_69 (by decide) (fun c_23 => ?_) (fun c_23 => ?_)
        · skip
          have uc_23 := i_ne (n := 0) (by decide) c_23
          refine lv_iload_n hx hb dX12_ruled_76 rfl (lv_at hl 1 rfl) ?_
          exact W.iret (v := i_15) hx hb hr (fun t ht hW => ⟨⟨i_15, (σ_17, ρ_18), rfl, ⟨hB.2.1, hB.2.2, (show σ_17 h0 21 = σ h0 21 from k_20)⟩, (show TP D cA L T r σ_17 ρ_18 t.heap from by rw [ht]; exact hB.1)⟩, hS.F ht⟩) hS.2.2 dX12_ruled_77
        · skip
          have uc_23 := i_eq (n := 0) (by decide) c_23
          refine lv_iload_n hx hb dX12_ruled_72 rfl (lv_at hl 2 rfl) ?_
          refine lv_goto (tgt := 77) hx hb dX12_ruled_73 (by decide) ?_
          exact W.iret (v := i_14) hx hb hr (fun t ht hW => ⟨⟨i_14, (σ_17, ρ_18), rfl, ⟨hB.2.1, hB.2.2, (show σ_17 h0 21 = σ h0 21 from k_20)⟩, (show TP D cA L T r σ_17 ρ_18 t.heap from by rw [ht]; exact hB.1)⟩, hS.F ht⟩) hS.2.2 dX12_ruled_77
      · skip
        have uc_22 := i_nlt (n := 0) (by decide) c_22
        refine lv_aload_n hx hb dX12_ruled_41 rfl (lv_at hl 3 rfl) ?_
        refine t_gr hx hb hts hown hK hG hB mh0 th0 fq_12_37 rfl mw_6_13 dX12_ruled_42 (fun b_24 hb_24 mb_24 tb_24 => ?_)
        refine lv_iload hx hb dX12_ruled_45 (lv_at hl 0 rfl) ?_
        refine t_az hx hb hK hB mb_24 tb_24 ai_80 (fun _ => rfl) (i_in (by omega) (by omega)) dX12_ruled_47 (fun x_25 ex_25 lx_25 ux_25 => ?_)
        have cx_25 := congrArg Int32.toInt ex_25
        refine lv_if_ne (tgt := 54) hx hb dX12_ruled_48 (by decide) (fun c_26 => ?_) (fun c_26 => ?_)
        · skip
          have uc_26 := i_ne (n := 0) (by decide) c_26
          refine lv_iload hx hb dX12_ruled_54 (lv_at hl 0 rfl) ?_
          refine lv_iconst (v := 1) hx hb dX12_ruled_56 (by decide) ?_
          refine lv_isub hx hb dX12_ruled_57 ?_
          refine lv_topi (fun x_27 ex_27 => ?_)
          have vx_27 := b_sub (rfl : i_16.toInt = _) (by decide : (1 : Int32).toInt = 1) ex_27 (by omega) (by omega)
          refine lv_istore_n (lv' := [(3, .int x_27), (4, .int i_16), (2, .int i_14), (0, .ref h0), (1, .int p1)]) hx hb dX12_ruled_58 rfl hl (by decide) rfl (fun ls hl => ?_)
          obtain ⟨x_28, ex_28⟩ : ∃ y : Int32, y = i_14 + 1 := ⟨_, rfl⟩
          try have vx_28 := b_add (rfl : i_14.toInt = _) (by decide : (1 : Int32).toInt = 1) ex_28 (by omega) (by omega)
          refine lv_iinc (v := x_28) (lv' := [(2, .int x_28), (3, .int x_27), (4, .int i_16), (0, .ref h0), (1, .int p1)]) hx hb dX12_ruled_59 hl (k := 2) rfl (by rw [ex_28]; rfl) (by decide) rfl (fun ls hl => ?_)
          obtain ⟨x_29, ex_29⟩ : ∃ y : Int32, y = i_16 + (-1) := ⟨_, rfl⟩
          have vx_29 := b_add (rfl : i_16.toInt = _) (by decide : ((-1) : Int32).toInt = (-1)) ex_29 (by omega) (by omega)
          refine lv_iinc (v := x_29) (lv' := [(4, .int x_29), (2, .int x_28), (3, .int x_27), (0, .ref h0), (1, .int p1)]) hx hb dX12_ruled_62 hl (k := 2) rfl (by rw [ex_29]; rfl) (by decide) rfl (fun ls hl => ?_)
          refine lv_goto (tgt := 36) hx hb dX12_ruled_65 (by decide) ?_
          exact ih_19 ⟨x_28, x_27, x_29, σ_17, ρ_18⟩ _ _ _ ⟨(by omega), (by omega), k_20, k_21, hB, hS, lv_sub hl [0, 2, 1, 3, 4] rfl⟩ (by show (x_29.toInt + 1).toNat < (i_16.toInt + 1).toNat; omega)
        · skip
          have uc_26 := i_eq (n := 0) (by decide) c_26
          refine lv_goto (tgt := 62) hx hb dX12_ruled_51 (by decide) ?_
          obtain ⟨x_30, ex_30⟩ : ∃ y : Int32, y = i_16 + (-1) := ⟨_, rfl⟩
          have vx_30 := b_add (rfl : i_16.toInt = _) (by decide : ((-1) : Int32).toInt = (-1)) ex_30 (by omega) (by omega)
          refine lv_iinc (v := x_30) (lv' := [(4, .int x_30), (3, .int i_15), (2, .int i_14), (0, .ref h0), (1, .int p1)]) hx hb dX12_ruled_62 hl (k := 0) rfl (by rw [ex_30]; rfl) (by decide) rfl (fun ls hl => ?_)
          refine lv_goto (tgt := 36) hx hb dX12_ruled_65 (by decide) ?_
          exact ih_19 ⟨i_14, i_15, x_30, σ_17, ρ_18⟩ _ _ _ ⟨(by omega), (by omega), k_20, k_21, hB, hS, lv_sub hl [0, 1, 2, 3, 4] rfl⟩ (by show (x_30.toInt + 1).toNat < (i_16.toInt + 1).toNat; omega)
    · skip
      have uc_9 := i_eq (n := 0) (by decide) c_9
      refine lv_bipush (v := (-3)) hx hb dX12_ruled_17 (by decide) ?_
      exact W.iret (v := (-3)) hx hb hr (fun t ht hW => ⟨⟨(-3), (σ, ρ_7), rfl, ⟨hB.2.1, hB.2.2, (show σ h0 21 = σ h0 21 from rfl)⟩, (show TP D cA L T r σ ρ_7 t.heap from by rw [ht]; exact hB.1)⟩, hS.F ht⟩) hS.2.2 dX12_ruled_19
theorem mw_8_108 : (.instanceMethod yX12_alikeAt : Cond) ∈ wsA := wsA_t (List.mem_append_right _ (List.mem_append_right _ (List.mem_append_right _ (List.mem_append_right _ (List.mem_append_right _ (List.mem_append_right _ (List.mem_append_right _ (List.mem_of_getElem? (l := tables_1_8) (i := 108) rfl)))))))) rfl
theorem mp_8_9 : (.selects RX12 yX12_alikeAt yX12_alikeAt : Cond) ∈ wsA := wsA_p (q := (yX12_alikeAt, 44)) (List.mem_append_right _ (List.mem_append_right _ (List.mem_append_right _ (List.mem_append_right _ (List.mem_append_right _ (List.mem_append_right _ (List.mem_append_right _ (List.mem_of_getElem? (l := lw_privs_8) (i := 9) rfl))))))))
theorem mw_8_109 : (.code yX12_alikeAt cX12_alikeAt 6 (some .int) : Cond) ∈ wsA := wsA_t (List.mem_append_right _ (List.mem_append_right _ (List.mem_append_right _ (List.mem_append_right _ (List.mem_append_right _ (List.mem_append_right _ (List.mem_append_right _ (List.mem_of_getElem? (l := tables_1_8) (i := 109) rfl)))))))) rfl
theorem mw_8_106 : (.methodLink RX12 457 yX12_alikeAt : Cond) ∈ wsA := wsA_t (List.mem_append_right _ (List.mem_append_right _ (List.mem_append_right _ (List.mem_append_right _ (List.mem_append_right _ (List.mem_append_right _ (List.mem_append_right _ (List.mem_of_getElem? (l := tables_1_8) (i := 106) rfl)))))))) rfl
theorem dX12_look_0 : decode cX12_look 0 = .ok (.aload_n 0, 1) := by decide +kernel
theorem dX12_look_1 : decode cX12_look 1 = .ok (.invokevirtual 354, 3) := by decide +kernel
theorem dX12_look_4 : decode cX12_look 4 = .ok (.ifCond .eq 25, 3) := by decide +kernel
theorem dX12_look_29 : decode cX12_look 29 = .ok (.iconst (-1), 1) := by decide +kernel
theorem dX12_look_30 : decode cX12_look 30 = .ok (.ireturn, 1) := by decide +kernel
theorem dX12_look_7 : decode cX12_look 7 = .ok (.iload_n 1, 1) := by decide +kernel
theorem dX12_look_8 : decode cX12_look 8 = .ok (.i2l, 1) := by decide +kernel
theorem dX12_look_9 : decode cX12_look 9 = .ok (.lconst 0, 1) := by decide +kernel
theorem dX12_look_10 : decode cX12_look 10 = .ok (.ldc2_w 440, 3) := by decide +kernel
theorem dX12_look_13 : decode cX12_look 13 = .ok (.invokestatic 130, 3) := by decide +kernel
theorem dX12_look_16 : decode cX12_look 16 = .ok (.ifCond .eq 13, 3) := by decide +kernel
theorem dX12_look_19 : decode cX12_look 19 = .ok (.iload_n 2, 1) := by decide +kernel
theorem dX12_look_20 : decode cX12_look 20 = .ok (.i2l, 1) := by decide +kernel
theorem dX12_look_21 : decode cX12_look 21 = .ok (.lconst 0, 1) := by decide +kernel
theorem dX12_look_22 : decode cX12_look 22 = .ok (.lconst 1, 1) := by decide +kernel
theorem dX12_look_23 : decode cX12_look 23 = .ok (.invokestatic 130, 3) := by decide +kernel
theorem dX12_look_26 : decode cX12_look 26 = .ok (.ifCond .ne 5, 3) := by decide +kernel
theorem dX12_look_31 : decode cX12_look 31 = .ok (.aload_n 0, 1) := by decide +kernel
theorem dX12_look_32 : decode cX12_look 32 = .ok (.iload_n 1, 1) := by decide +kernel
theorem dX12_look_33 : decode cX12_look 33 = .ok (.invokevirtual 454, 3) := by decide +kernel
theorem dX12_look_36 : decode cX12_look 36 = .ok (.bipush (-2), 2) := by decide +kernel
theorem dX12_look_38 : decode cX12_look 38 = .ok (.istore_n 3, 1) := by decide +kernel
theorem dX12_look_39 : decode cX12_look 39 = .ok (.bipush (-2), 2) := by decide +kernel
theorem dX12_look_41 : decode cX12_look 41 = .ok (.istore 4, 2) := by decide +kernel
theorem dX12_look_43 : decode cX12_look 43 = .ok (.iconst 0, 1) := by decide +kernel
theorem dX12_look_44 : decode cX12_look 44 = .ok (.istore 5, 2) := by decide +kernel
theorem dX12_look_46 : decode cX12_look 46 = .ok (.iload 5, 2) := by decide +kernel
theorem dX12_look_48 : decode cX12_look 48 = .ok (.aload_n 0, 1) := by decide +kernel
theorem dX12_look_49 : decode cX12_look 49 = .ok (.getfield 39, 3) := by decide +kernel
theorem dX12_look_52 : decode cX12_look 52 = .ok (.iconst 2, 1) := by decide +kernel
theorem dX12_look_53 : decode cX12_look 53 = .ok (.iaload, 1) := by decide +kernel
theorem dX12_look_54 : decode cX12_look 54 = .ok (.if_icmp .ge 43, 3) := by decide +kernel
theorem dX12_look_57 : decode cX12_look 57 = .ok (.aload_n 0, 1) := by decide +kernel
theorem dX12_look_58 : decode cX12_look 58 = .ok (.iload 5, 2) := by decide +kernel
theorem dX12_look_60 : decode cX12_look 60 = .ok (.invokevirtual 457, 3) := by decide +kernel
theorem dX12_look_63 : decode cX12_look 63 = .ok (.istore 6, 2) := by decide +kernel
theorem dX12_look_65 : decode cX12_look 65 = .ok (.iload 6, 2) := by decide +kernel
theorem dX12_look_67 : decode cX12_look 67 = .ok (.ifCond .eq 24, 3) := by decide +kernel
theorem dX12_look_91 : decode cX12_look 91 = .ok (.iinc 5 1, 3) := by decide +kernel
theorem dX12_look_94 : decode cX12_look 94 = .ok (.goto (-48), 3) := by decide +kernel
theorem dX12_look_70 : decode cX12_look 70 = .ok (.iload_n 3, 1) := by decide +kernel
theorem dX12_look_71 : decode cX12_look 71 = .ok (.ifCond .lt 13, 3) := by decide +kernel
theorem dX12_look_84 : decode cX12_look 84 = .ok (.iload 5, 2) := by decide +kernel
theorem dX12_look_86 : decode cX12_look 86 = .ok (.istore_n 3, 1) := by decide +kernel
theorem dX12_look_87 : decode cX12_look 87 = .ok (.iload 6, 2) := by decide +kernel
theorem dX12_look_89 : decode cX12_look 89 = .ok (.istore 4, 2) := by decide +kernel
theorem dX12_look_74 : decode cX12_look 74 = .ok (.iload 6, 2) := by decide +kernel
theorem dX12_look_76 : decode cX12_look 76 = .ok (.iload 4, 2) := by decide +kernel
theorem dX12_look_78 : decode cX12_look 78 = .ok (.if_icmp .lt 6, 3) := by decide +kernel
theorem dX12_look_81 : decode cX12_look 81 = .ok (.goto 10, 3) := by decide +kernel
theorem dX12_look_97 : decode cX12_look 97 = .ok (.iload_n 2, 1) := by decide +kernel
theorem dX12_look_98 : decode cX12_look 98 = .ok (.ifCond .ne 7, 3) := by decide +kernel
theorem dX12_look_105 : decode cX12_look 105 = .ok (.iload 4, 2) := by decide +kernel
theorem dX12_look_107 : decode cX12_look 107 = .ok (.ireturn, 1) := by decide +kernel
theorem dX12_look_101 : decode cX12_look 101 = .ok (.iload_n 3, 1) := by decide +kernel
theorem dX12_look_102 : decode cX12_look 102 = .ok (.goto 5, 3) := by decide +kernel
theorem mv_X12_alikeAt : MV RX12 yX12_alikeAt cX12_alikeAt 6 (some .int) 1 := ⟨mw_8_108, mp_8_9, mw_1_13, mw_8_109, ⟨rfl, by decide, by decide, by decide +kernel⟩⟩
set_option maxHeartbeats 4000000 in
set_option maxRecDepth 100000 in
theorem cy_X12_look (l : Launch) (D : va_G) (cA : Nat → ClassId) (L : List Nat) (T : Nat → Nat) (r : Rg) (hG : GR L T r) (hL : L.Nodup) (σ : Sg) (ρ : Lg) (hW : WT L ry T σ) (sz : Nat) (h0 : Nat) (mh0 : h0 ∈ L) (th0 : T h0 = 12) (p1 : Int32) (p2 : Int32) (bg : Nat) (hbg : r h0 3 = some bg) (mbg : bg ∈ L) (tbg : T bg = 62) (bk : Nat) (hbk : r h0 5 = some bk) (mbk : bk ∈ L) (tbk : T bk = 64) (bc : Nat) (hbc : r h0 6 = some bc) (mbc : bc ∈ L) (tbc : T bc = 65) (w0 : WR (σ bg) (σ bk) (σ bc) (σ h0 2).toInt.toNat) : Met l yX12_look (.code yX12_look cX12_look 7 (some .int) :: wsA) ({ frames := 5, cells := 0, slots := 0, locals := 126 }) (PR D cA L T r σ ρ sz [.ref h0, .int p1, .int p2]) (QI D cA L T r ry [(12, 18), (12, 21), (70, 1000), (71, 1000), (79, 1000), (80, 1000), (81, 1000)] σ sz (fun x σ1 => (σ1 h0 21 = σ h0 21))) 0 0 (dm L sz) := by
  refine Met.ofW (cc := cX12_look) (maxL := 7) (ret := (some .int)) (by decide) rfl ?_
  intro p e s m args below meth c s₁ B hml hv
  obtain ⟨rfl, hsz, hP, hK, hN⟩ := hv
  have hx := B.exec
  have hb := B.bytes
  have hr := B.returns
  have hts : ∀ w ∈ wsA, w.before _ s = true := fun w h => atoms_spec (ws := .code yX12_look cX12_look 7 (some .int) :: wsA) B.pre w (List.mem_cons_of_mem _ h)
  have hown : s.vm.findClass RX12 = some m.cls := findClass_of_methodNamed B.named
  subst hsz
  have hLA : LA (dm L s.heap.size) L := ⟨hL, fun a h => Or.inl h⟩
  have hA : ∀ q : Nat, s.heap.size ≤ q → dm L s.heap.size q := fun q h => Or.inr h
  have hS : va_S (dm L s.heap.size) s.heap s.heap [] := va_S.rf
  have hB : TS D cA L T r ry [(12, 18), (12, 21), (70, 1000), (71, 1000), (79, 1000), (80, 1000), (81, 1000)] σ σ ρ s.heap := ⟨hP, hW, FR.rf⟩
  have hl := lv_entry ([.ref h0, .int p1, .int p2]) (n := 7) (Nat.le_of_ble_eq_true rfl)
  rw [lg_entry_eq]
  generalize (lg_sl ([.ref h0, .int p1, .int p2]) ++ List.replicate (7 - (lg_sl ([.ref h0, .int p1, .int p2])).length) Slot.unset).toArray = ls at hl ⊢
  have hl : lv_has ls 7 [(0, .ref h0), (1, .int p1), (2, .int p2)] := hl
  have w_1 : (-1) ≤ (σ h0 21).toInt ∧ (σ h0 21).toInt ≤ 5 := by have z := hB.2.1 h0 mh0 21; rw [th0] at z; exact z
  refine lv_aload_n hx hb dX12_look_0 rfl (lv_at hl 0 rfl) ?_
  refine t_ci (va_runV (As := []) (rest := []) ⟨hx, hb, hml, hown, hts⟩ (cy_X12_isHill l D cA L T r hG hLA.1 σ ρ hB.2.1 _ h0 mh0 th0) (cV hts mv_X12_isHill mw_7_123 rfl rfl ⟨Nat.le_of_ble_eq_true rfl, Nat.le_of_ble_eq_true rfl⟩) (pV hB.1 hK hN mh0 th0 (show shp cA 12 _ _ _ = .inr (12, Fs12 _ _ _) from rfl) rfl) rfl rfl hl.1 rfl (lv_room (Nat.le_of_ble_eq_true rfl)) dX12_look_1 ⟨Nat.le_of_ble_eq_true rfl, Nat.le_of_ble_eq_true rfl⟩) hLA hA hB hS (by decide) (fun x_4 σ_2 ρ_3 H locs hB fσ_2 pσ_2 hS => ?_)
  have qσ_2 := FR.nil fσ_2
  subst qσ_2
  obtain ⟨lx_4, ux_4⟩ := pσ_2
  refine lv_if_eq (tgt := 29) hx hb dX12_look_4 (by decide) (fun c_5 => ?_) (fun c_5 => ?_)
  · skip
    have uc_5 := i_eq (n := 0) (by decide) c_5
    refine lv_iconst (v := (-1)) hx hb dX12_look_29 (by decide) ?_
    exact W.iret (v := (-1)) hx hb hr (fun t ht hW => ⟨⟨(-1), (σ, ρ_3), rfl, ⟨hB.2.1, hB.2.2, (show σ h0 21 = σ h0 21 from rfl)⟩, (show TP D cA L T r σ ρ_3 t.heap from by rw [ht]; exact hB.1)⟩, hS.F ht⟩) hS.2.2 dX12_look_30
  · skip
    have uc_5 := i_ne (n := 0) (by decide) c_5
    refine lv_iload_n hx hb dX12_look_7 rfl (lv_at hl 1 rfl) ?_
    refine lv_i2l (v := p1.toInt64) hx hb dX12_look_8 rfl ?_
    refine lv_lconst (v := 0) hx hb dX12_look_9 (by decide) ?_
    refine lv_ldc2 (v := 60) hx hb hown (hts _ mw_8_77) dX12_look_10 ?_
    refine t_ci (va_runS (As := [.long p1.toInt64, .long 0, .long 60]) (rest := []) ⟨hx, hb, hml, hown, hts⟩ (cy_X12_in_0_60 l D cA L T r hG hLA.1 σ ρ_3 hB.2.1 _ p1) (cS hts ms_X12_in mw_6_185 rfl rfl ⟨Nat.le_of_ble_eq_true rfl, Nat.le_of_ble_eq_true rfl⟩) (pS hB.1 hK hN) rfl rfl hl.1 rfl (lv_room (Nat.le_of_ble_eq_true rfl)) dX12_look_13 ⟨Nat.le_of_ble_eq_true rfl, Nat.le_of_ble_eq_true rfl⟩) hLA hA hB hS (by decide) (fun x_8 σ_6 ρ_7 H locs hB fσ_6 pσ_6 hS => ?_)
    have qσ_6 := FR.nil fσ_6
    subst qσ_6
    obtain ⟨ox_8, ix_8⟩ := pσ_6
    refine lv_if_eq (tgt := 29) hx hb dX12_look_16 (by decide) (fun c_9 => ?_) (fun c_9 => ?_)
    · skip
      have uc_9 := i_eq (n := 0) (by decide) c_9
      refine lv_iconst (v := (-1)) hx hb dX12_look_29 (by decide) ?_
      exact W.iret (v := (-1)) hx hb hr (fun t ht hW => ⟨⟨(-1), (σ, ρ_7), rfl, ⟨hB.2.1, hB.2.2, (show σ h0 21 = σ h0 21 from rfl)⟩, (show TP D cA L T r σ ρ_7 t.heap from by rw [ht]; exact hB.1)⟩, hS.F ht⟩) hS.2.2 dX12_look_30
    · skip
      have uc_9 := i_ne (n := 0) (by decide) c_9
      refine lv_iload_n hx hb dX12_look_19 rfl (lv_at hl 2 rfl) ?_
      refine lv_i2l (v := p2.toInt64) hx hb dX12_look_20 rfl ?_
      refine lv_lconst (v := 0) hx hb dX12_look_21 (by decide) ?_
      refine lv_lconst (v := 1) hx hb dX12_look_22 (by decide) ?_
      refine t_ci (va_runS (As := [.long p2.toInt64, .long 0, .long 1]) (rest := []) ⟨hx, hb, hml, hown, hts⟩ (cy_X12_in_0_1 l D cA L T r hG hLA.1 σ ρ_7 hB.2.1 _ p2) (cS hts ms_X12_in mw_6_185 rfl rfl ⟨Nat.le_of_ble_eq_true rfl, Nat.le_of_ble_eq_true rfl⟩) (pS hB.1 hK hN) rfl rfl hl.1 rfl (lv_room (Nat.le_of_ble_eq_true rfl)) dX12_look_23 ⟨Nat.le_of_ble_eq_true rfl, Nat.le_of_ble_eq_true rfl⟩) hLA hA hB hS (by decide) (fun x_12 σ_10 ρ_11 H locs hB fσ_10 pσ_10 hS => ?_)
      have qσ_10 := FR.nil fσ_10
      subst qσ_10
      obtain ⟨ox_12, ix_12⟩ := pσ_10
      refine lv_if_ne (tgt := 31) hx hb dX12_look_26 (by decide) (fun c_13 => ?_) (fun c_13 => ?_)
      · skip
        have uc_13 := i_ne (n := 0) (by decide) c_13
        refine lv_aload_n hx hb dX12_look_31 rfl (lv_at hl 0 rfl) ?_
        refine lv_iload_n hx hb dX12_look_32 rfl (lv_at hl 1 rfl) ?_
        refine t_cv (va_runV (As := [.int p1]) (rest := []) ⟨hx, hb, hml, hown, hts⟩ (cy_X12_fillsFits l D cA L T r hG hLA.1 σ ρ_11 hB.2.1 _ h0 mh0 th0 p1 bg hbg mbg tbg bk hbk mbk tbk bc hbc mbc tbc (by rw [FR.row hB.2.2 tbg (fun j => by simp), FR.row hB.2.2 tbk (fun j => by simp), FR.row hB.2.2 tbc (fun j => by simp), FR.at hB.2.2 th0 (by simp)]; exact w0)) (cV hts mv_X12_fillsFits mw_8_82 rfl rfl ⟨Nat.le_of_ble_eq_true rfl, Nat.le_of_ble_eq_true rfl⟩) (pV hB.1 hK hN mh0 th0 (show shp cA 12 _ _ _ = .inr (12, Fs12 _ _ _) from rfl) rfl) rfl rfl hl.1 rfl (lv_room (Nat.le_of_ble_eq_true rfl)) dX12_look_33 ⟨Nat.le_of_ble_eq_true rfl, Nat.le_of_ble_eq_true rfl⟩) hLA hA hB hS (by decide) (fun σ_14 ρ_15 H locs hB fσ_14 pσ_14 hS => ?_)
        refine lv_bipush (v := (-2)) hx hb dX12_look_36 (by decide) ?_
        refine lv_istore_n (lv' := [(3, .int (-2)), (0, .ref h0), (1, .int p1), (2, .int p2)]) hx hb dX12_look_38 rfl hl (by decide) rfl (fun ls hl => ?_)
        refine lv_bipush (v := (-2)) hx hb dX12_look_39 (by decide) ?_
        refine lv_istore (lv' := [(4, .int (-2)), (3, .int (-2)), (0, .ref h0), (1, .int p1), (2, .int p2)]) hx hb dX12_look_41 hl (by decide) rfl (fun ls hl => ?_)
        refine lv_iconst (v := 0) hx hb dX12_look_43 (by decide) ?_
        refine lv_istore (lv' := [(5, .int 0), (4, .int (-2)), (3, .int (-2)), (0, .ref h0), (1, .int p1), (2, .int p2)]) hx hb dX12_look_44 hl (by decide) rfl (fun ls hl => ?_)
        refine w_loop (α := Int32 × Int32 × Int32 × Sg × Lg) (fun (i_17, i_18, i_19, σ_20, ρ_21) H locs ls => 0 ≤ i_19.toInt ∧ i_19.toInt ≤ 8 ∧ σ_20 h0 21 = (σ h0 21) ∧ TS D cA L T r ry [(12, 18), (12, 21), (70, 1000), (71, 1000), (79, 1000), (80, 1000), (81, 1000)] σ σ_20 ρ_21 H ∧ va_S (dm L s.heap.size) s.heap H locs ∧ lv_has ls 7 [(5, .int i_19), (4, .int i_18), (3, .int i_17), (0, .ref h0), (1, .int p1), (2, .int p2)]) (fun (i_17, i_18, i_19, σ_20, ρ_21) => (8 - i_19.toInt).toNat) ?_ ⟨(-2), (-2), 0, σ_14, ρ_15⟩ ⟨(by decide), (by decide), pσ_14, hB, hS, lv_sub hl [0, 1, 2, 3, 4, 5] rfl⟩
        rintro ⟨i_17, i_18, i_19, σ_20, ρ_21⟩ H locs ls ⟨li_19, ui_19, k_23, hB, hS, hl⟩ ih_22
        refine lv_iload hx hb dX12_look_46 (lv_at hl 0 rfl) ?_
        refine lv_aload_n hx hb dX12_look_48 rfl (lv_at hl 3 rfl) ?_
        refine t_gr hx hb hts hown hK hG hB mh0 th0 fq_12_20 rfl mw_5_236 dX12_look_49 (fun b_24 hb_24 mb_24 tb_24 => ?_)
        refine lv_iconst (v := 2) hx hb dX12_look_52 (by decide) ?_
        refine t_aj hx hb hK hB mb_24 tb_24 ai_70 (i_in (by decide) (by decide)) dX12_look_53 (fun x_25 ex_25 lx_25 ux_25 => ?_)
        have lx_25 : 0 ≤ x_25.toInt := lx_25
        have ux_25 : x_25.toInt ≤ 8 := ux_25
        have cx_25 := congrArg Int32.toInt ex_25
        refine lv_icmp_ge (tgt := 97) hx hb dX12_look_54 (by decide) (fun c_26 => ?_) (fun c_26 => ?_)
        · skip
          have uc_26 := j_le c_26
          refine lv_iload_n hx hb dX12_look_97 rfl (lv_at hl 5 rfl) ?_
          refine lv_if_ne (tgt := 105) hx hb dX12_look_98 (by decide) (fun c_27 => ?_) (fun c_27 => ?_)
          · skip
            have uc_27 := i_ne (n := 0) (by decide) c_27
            refine lv_iload hx hb dX12_look_105 (lv_at hl 1 rfl) ?_
            exact W.iret (v := i_18) hx hb hr (fun t ht hW => ⟨⟨i_18, (σ_20, ρ_21), rfl, ⟨hB.2.1, hB.2.2, (show σ_20 h0 21 = σ h0 21 from k_23)⟩, (show TP D cA L T r σ_20 ρ_21 t.heap from by rw [ht]; exact hB.1)⟩, hS.F ht⟩) hS.2.2 dX12_look_107
          · skip
            have uc_27 := i_eq (n := 0) (by decide) c_27
            refine lv_iload_n hx hb dX12_look_101 rfl (lv_at hl 2 rfl) ?_
            refine lv_goto (tgt := 107) hx hb dX12_look_102 (by decide) ?_
            exact W.iret (v := i_17) hx hb hr (fun t ht hW => ⟨⟨i_17, (σ_20, ρ_21), rfl, ⟨hB.2.1, hB.2.2, (show σ_20 h0 21 = σ h0 21 from k_23)⟩, (show TP D cA L T r σ_20 ρ_21 t.heap from by rw [ht]; exact hB.1)⟩, hS.F ht⟩) hS.2.2 dX12_look_107
        · skip
          have uc_26 := j_nle c_26
          refine lv_aload_n hx hb dX12_look_57 rfl (lv_at hl 3 rfl) ?_
          refine lv_iload hx hb dX12_look_58 (lv_at hl 0 rfl) ?_
          refine t_ci (va_runV (As := [.int i_19]) (rest := []) ⟨hx, hb, hml, hown, hts⟩ (cy_X12_alikeAt l D cA L T r hG hLA.1 σ_20 ρ_21 hB.2.1 _ h0 mh0 th0 i_19 (by first | omega | decide) (by first | omega | decide)) (cV hts mv_X12_alikeAt mw_8_106 rfl rfl ⟨Nat.le_of_ble_eq_true rfl, Nat.le_of_ble_eq_true rfl⟩) (pV hB.1 hK hN mh0 th0 (show shp cA 12 _ _ _ = .inr (12, Fs12 _ _ _) from rfl) rfl) rfl rfl hl.1 rfl (lv_room (Nat.le_of_ble_eq_true rfl)) dX12_look_60 ⟨Nat.le_of_ble_eq_true rfl, Nat.le_of_ble_eq_true rfl⟩) hLA hA hB hS (by decide) (fun x_30 σ_28 ρ_29 H locs hB fσ_28 pσ_28 hS => ?_)
          have qσ_28 := FR.nil fσ_28
          subst qσ_28
          refine lv_istore (lv' := [(6, .int x_30), (5, .int i_19), (4, .int i_18), (3, .int i_17), (0, .ref h0), (1, .int p1), (2, .int p2)]) hx hb dX12_look_63 hl (by decide) rfl (fun ls hl => ?_)
          refine lv_iload hx hb dX12_look_65 (lv_at hl 0 rfl) ?_
          refine lv_if_eq (tgt := 91) hx hb dX12_look_67 (by decide) (fun c_31 => ?_) (fun c_31 => ?_)
          · skip
            have uc_31 := i_eq (n := 0) (by decide) c_31
            obtain ⟨x_32, ex_32⟩ : ∃ y : Int32, y = i_19 + 1 := ⟨_, rfl⟩
            have vx_32 := b_add (rfl : i_19.toInt = _) (by decide : (1 : Int32).toInt = 1) ex_32 (by omega) (by omega)
            refine lv_iinc (v := x_32) (lv' := [(5, .int x_32), (6, .int x_30), (4, .int i_18), (3, .int i_17), (0, .ref h0), (1, .int p1), (2, .int p2)]) hx hb dX12_look_91 hl (k := 1) rfl (by rw [ex_32]; rfl) (by decide) rfl (fun ls hl => ?_)
            refine lv_goto (tgt := 46) hx hb dX12_look_94 (by decide) ?_
            exact ih_22 ⟨i_17, i_18, x_32, σ_20, ρ_29⟩ _ _ _ ⟨(by omega), (by omega), k_23, hB, hS, lv_sub hl [0, 2, 3, 4, 5, 6] rfl⟩ (by show (8 - x_32.toInt).toNat < (8 - i_19.toInt).toNat; omega)
          · skip
            have uc_31 := i_ne (n := 0) (by decide) c_31
            refine lv_iload_n hx hb dX12_look_70 rfl (lv_at hl 3 rfl) ?_
            refine lv_if_lt (tgt := 84) hx hb dX12_look_71 (by decide) (fun c_33 => ?_) (fun c_33 => ?_)
            · skip
              have uc_33 := i_lt (n := 0) (by decide) c_33
              refine lv_iload hx hb dX12_look_84 (lv_at hl 1 rfl) ?_
              refine lv_istore_n (lv' := [(3, .int i_19), (6, .int x_30), (5, .int i_19), (4, .int i_18), (0, .ref h0), (1, .int p1), (2, .int p2)]) hx hb dX12_look_86 rfl hl (by decide) rfl (fun ls hl => ?_)
              refine lv_iload hx hb dX12_look_87 (lv_at hl 1 rfl) ?_
              refine lv_istore (lv' := [(4, .int x_30), (3, .int i_19), (6, .int x_30), (5, .int i_19), (0, .ref h0), (1, .int p1), (2, .int p2)]) hx hb dX12_look_89 hl (by decide) rfl (fun ls hl => ?_)
              obtain ⟨x_34, ex_34⟩ : ∃ y : Int32, y = i_19 + 1 := ⟨_, rfl⟩
              have vx_34 := b_add (rfl : i_19.toInt = _) (by decide : (1 : Int32).toInt = 1) ex_34 (by omega) (by omega)
              refine lv_iinc (v := x_34) (lv' := [(5, .int x_34), (4, .int x_30), (3, .int i_19), (6, .int x_30), (0, .ref h0), (1, .int p1), (2, .int p2)]) hx hb dX12_look_91 hl (k := 3) rfl (by rw [ex_34]; rfl) (by decide) rfl (fun ls hl => ?_)
              refine lv_goto (tgt := 46) hx hb dX12_look_94 (by decide) ?_
              exact ih_22 ⟨i_19, x_30, x_34, σ_20, ρ_29⟩ _ _ _ ⟨(by omega), (by omega), k_23, hB, hS, lv_sub hl [0, 1, 2, 4, 5, 6] rfl⟩ (by show (8 - x_34.toInt).toNat < (8 - i_19.toInt).toNat; omega)
            · skip
              have uc_33 := i_nlt (n := 0) (by decide) c_33
              refine lv_iload hx hb dX12_look_74 (lv_at hl 0 rfl) ?_
              refine lv_iload hx hb dX12_look_76 (lv_at hl 2 rfl) ?_
              refine lv_icmp_lt (tgt := 84) hx hb dX12_look_78 (by decide) (fun c_35 => ?_) (fun c_35 => ?_)
              · skip
                have uc_35 := j_lt c_35
                refine lv_iload hx hb dX12_look_84 (lv_at hl 1 rfl) ?_
                refine lv_istore_n (lv' := [(3, .int i_19), (6, .int x_30), (5, .int i_19), (4, .int i_18), (0, .ref h0), (1, .int p1), (2, .int p2)]) hx hb dX12_look_86 rfl hl (by decide) rfl (fun ls hl => ?_)
                refine lv_iload hx hb dX12_look_87 (lv_at hl 1 rfl) ?_
                refine lv_istore (lv' := [(4, .int x_30), (3, .int i_19), (6, .int x_30), (5, .int i_19), (0, .ref h0), (1, .int p1), (2, .int p2)]) hx hb dX12_look_89 hl (by decide) rfl (fun ls hl => ?_)
                obtain ⟨x_36, ex_36⟩ : ∃ y : Int32, y = i_19 + 1 := ⟨_, rfl⟩
                have vx_36 := b_add (rfl : i_19.toInt = _) (by decide : (1 : Int32).toInt = 1) ex_36 (by omega) (by omega)
                refine lv_iinc (v := x_36) (lv' := [(5, .int x_36), (4, .int x_30), (3, .int i_19), (6, .int x_30), (0, .ref h0), (1, .int p1), (2, .int p2)]) hx hb dX12_look_91 hl (k := 3) rfl (by rw [ex_36]; rfl) (by decide) rfl (fun ls hl => ?_)
                refine lv_goto (tgt := 46) hx hb dX12_look_94 (by decide) ?_
                exact ih_22 ⟨i_19, x_30, x_36, σ_20, ρ_29⟩ _ _ _ ⟨(by omega), (by omega), k_23, hB, hS, lv_sub hl [0, 1, 2, 4, 5, 6] rfl⟩ (by show (8 - x_36.toInt).toNat < (8 - i_19.toInt).toNat; omega)
              · skip
                have uc_35 := j_nlt c_35
                refine lv_goto (tgt := 91) hx hb dX12_look_81 (by decide) ?_
                obtain ⟨x_37, ex_37⟩ : ∃ y : Int32, y = i_19 + 1 := ⟨_, rfl⟩
                have vx_37 := b_add (rfl : i_19.toInt = _) (by decide : (1 : Int32).toInt = 1) ex_37 (by omega) (by omega)
                refine lv_iinc (v := x_37) (lv' := [(5, .int x_37), (6, .int x_30), (4, .int i_18), (3, .int i_17), (0, .ref h0), (1, .int p1), (2, .int p2)]) hx hb dX12_look_91 hl (k := 1) rfl (by rw [ex_37]; rfl) (by decide) rfl (fun ls hl => ?_)
                refine lv_goto (tgt := 46) hx hb dX12_look_94 (by decide) ?_
                exact ih_22 ⟨i_17, i_18, x_37, σ_20, ρ_29⟩ _ _ _ ⟨(by omega), (by omega), k_23, hB, hS, lv_sub hl [0, 2, 3, 4, 5, 6] rfl⟩ (by show (8 - x_37.toInt).toNat < (8 - i_19.toInt).toNat; omega)
      · skip
        have uc_13 := i_eq (n := 0) (by decide) c_13
        refine lv_iconst (v := (-1)) hx hb dX12_look_29 (by decide) ?_
        exact W.iret (v := (-1)) hx hb hr (fun t ht hW => ⟨⟨(-1), (σ, ρ_11), rfl, ⟨hB.2.1, hB.2.2, (show σ h0 21 = σ h0 21 from rfl)⟩, (show TP D cA L T r σ ρ_11 t.heap from by rw [ht]; exact hB.1)⟩, hS.F ht⟩) hS.2.2 dX12_look_30
