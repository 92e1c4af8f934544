set_option maxHeartbeats 4000000 in
set_option maxRecDepth 100000 in
theorem cy_X12_in_g (l : Launch) (D : va_G) (cA : Nat → ClassId) (L : List Nat) (T : Nat → Nat) (r : Rg) (hG : GR L T r) (hL : L.Nodup) (σ : Sg) (ρ : Lg) (hW : WT L ry T σ) (sz : Nat) (p1 : Int32) (p2 : Int32) (p3 : Int32) : Met l yX12_in (.code yX12_in cX12_in 6 (some .boolean) :: wsA) ({ frames := 0, cells := 0, slots := 0, locals := 0 }) (PR D cA L T r σ ρ sz [.long p1.toInt64, .long p2.toInt64, .long p3.toInt64]) (QI D cA L T r ry ([] : List (Nat × Nat)) σ sz (fun x σ1 => ((x.toInt = 0 ∨ x.toInt = 1) ∧ (x.toInt = 1 → p2.toInt ≤ p1.toInt ∧ p1.toInt ≤ p3.toInt)))) 0 0 (dm L sz) := by
  refine Met.ofW (cc := cX12_in) (maxL := 6) (ret := (some .boolean)) (by decide) rfl ?_
  intro p e s m args below meth c s₁ B hml hv
  obtain ⟨rfl, hsz, hP, hK, hN⟩ := hv
  have hx := B.exec
  have hb := B.bytes
  have hr := B.returns
  have hts : ∀ w ∈ wsA, w.before _ s = true := fun w h => atoms_spec (ws := .code yX12_in cX12_in 6 (some .boolean) :: wsA) B.pre w (List.mem_cons_of_mem _ h)
  have hown : s.vm.findClass RX12 = some m.cls := findClass_of_methodNamed B.named
  subst hsz
  have hLA : LA (dm L s.heap.size) L := ⟨hL, fun a h => Or.inl h⟩
  have hA : ∀ q : Nat, s.heap.size ≤ q → dm L s.heap.size q := fun q h => Or.inr h
  have hS : va_S (dm L s.heap.size) s.heap s.heap [] := va_S.rf
  have hB : TS D cA L T r ry ([] : List (Nat × Nat)) σ σ ρ s.heap := ⟨hP, hW, FR.rf⟩
  have hl := lv_entry ([.long p1.toInt64, .long p2.toInt64, .long p3.toInt64]) (n := 6) (Nat.le_of_ble_eq_true rfl)
  rw [lg_entry_eq]
  generalize (lg_sl ([.long p1.toInt64, .long p2.toInt64, .long p3.toInt64]) ++ List.replicate (6 - (lg_sl ([.long p1.toInt64, .long p2.toInt64, .long p3.toInt64])).length) Slot.unset).toArray = ls at hl ⊢
  have hl : lv_has ls 6 [(0, .long p1.toInt64), (2, .long p2.toInt64), (4, .long p3.toInt64)] := hl
  refine lv_lload_n hx hb dX12_in_0 rfl (lv_at hl 0 rfl) ?_
  refine lv_lload_n hx hb dX12_in_1 rfl (lv_at hl 1 rfl) ?_
  refine W.lcmp hx hb dX12_in_2 ?_
  refine lv_if_lt (tgt := 17) hx hb dX12_in_3 (by decide) (fun c_1 => ?_) (fun c_1 => ?_)
  · skip
    have uc_1 := l_lt (l_i p1) (l_i p2) ((lg_cmp_lt _ _).mp c_1)
    refine lv_iconst (v := 0) hx hb dX12_in_17 (by decide) ?_
    exact W.zret (v := 0) hx hb hr rfl (fun t ht hW => ⟨⟨0, (σ, ρ), rfl, ⟨hB.2.1, hB.2.2, (show ((0 : Int32).toInt = 0 ∨ (0 : Int32).toInt = 1) ∧ ((0 : Int32).toInt = 1 → p2.toInt ≤ p1.toInt ∧ p1.toInt ≤ p3.toInt) from ⟨Or.inl (by decide), fun h => absurd h (by decide)⟩)⟩, (show TP D cA L T r σ ρ t.heap from by rw [ht]; exact hB.1)⟩, hS.F ht⟩) hS.2.2 dX12_in_18
  · skip
    have uc_1 := l_nlt (l_i p1) (l_i p2) (mt (lg_cmp_lt _ _).mpr c_1)
    refine lv_lload_n hx hb dX12_in_6 rfl (lv_at hl 0 rfl) ?_
    refine lv_lload hx hb dX12_in_7 (lv_at hl 2 rfl) ?_
    refine W.lcmp hx hb dX12_in_9 ?_
    refine lv_if_gt (tgt := 17) hx hb dX12_in_10 (by decide) (fun c_2 => ?_) (fun c_2 => ?_)
    · skip
      have uc_2 := l_lt (l_i p3) (l_i p1) ((lg_cmp_gt _ _).mp c_2)
      refine lv_iconst (v := 0) hx hb dX12_in_17 (by decide) ?_
      exact W.zret (v := 0) hx hb hr rfl (fun t ht hW => ⟨⟨0, (σ, ρ), rfl, ⟨hB.2.1, hB.2.2, (show ((0 : Int32).toInt = 0 ∨ (0 : Int32).toInt = 1) ∧ ((0 : Int32).toInt = 1 → p2.toInt ≤ p1.toInt ∧ p1.toInt ≤ p3.toInt) from ⟨Or.inl (by decide), fun h => absurd h (by decide)⟩)⟩, (show TP D cA L T r σ ρ t.heap from by rw [ht]; exact hB.1)⟩, hS.F ht⟩) hS.2.2 dX12_in_18
    · skip
      have uc_2 := l_nlt (l_i p3) (l_i p1) (mt (lg_cmp_gt _ _).mpr c_2)
      refine lv_iconst (v := 1) hx hb dX12_in_13 (by decide) ?_
      refine lv_goto (tgt := 18) hx hb dX12_in_14 (by decide) ?_
      exact W.zret (v := 1) hx hb hr rfl (fun t ht hW => ⟨⟨1, (σ, ρ), rfl, ⟨hB.2.1, hB.2.2, (show ((1 : Int32).toInt = 0 ∨ (1 : Int32).toInt = 1) ∧ ((1 : Int32).toInt = 1 → p2.toInt ≤ p1.toInt ∧ p1.toInt ≤ p3.toInt) from ⟨Or.inr (by decide), fun _ => by omega⟩)⟩, (show TP D cA L T r σ ρ t.heap from by rw [ht]; exact hB.1)⟩, hS.F ht⟩) hS.2.2 dX12_in_18
theorem mw_6_183 : (.instanceMethod yX12_isDigit : Cond) ∈ wsA := wsA_t (List.mem_append_right _ (List.mem_append_right _ (List.mem_append_right _ (List.mem_append_right _ (List.mem_append_right _ (List.mem_append_left _ (List.mem_of_getElem? (l := tables_1_6) (i := 183) rfl))))))) rfl
theorem mp_4_7 : (.selects RX12 yX12_isDigit yX12_isDigit : Cond) ∈ wsA := wsA_p (q := (yX12_isDigit, 44)) (List.mem_append_right _ (List.mem_append_right _ (List.mem_append_right _ (List.mem_append_left _ (List.mem_of_getElem? (l := lw_privs_4) (i := 7) rfl)))))
theorem mw_6_184 : (.code yX12_isDigit cX12_isDigit 2 (some .boolean) : Cond) ∈ wsA := wsA_t (List.mem_append_right _ (List.mem_append_right _ (List.mem_append_right _ (List.mem_append_right _ (List.mem_append_right _ (List.mem_append_left _ (List.mem_of_getElem? (l := tables_1_6) (i := 184) rfl))))))) rfl
theorem mw_6_181 : (.methodLink RX12 120 yX12_isDigit : Cond) ∈ wsA := wsA_t (List.mem_append_right _ (List.mem_append_right _ (List.mem_append_right _ (List.mem_append_right _ (List.mem_append_right _ (List.mem_append_left _ (List.mem_of_getElem? (l := tables_1_6) (i := 181) rfl))))))) rfl
theorem mw_5_226 : (.fieldLink RX12 127 "HillBendsModel" "number" "I" : Cond) ∈ wsA := wsA_t (List.mem_append_right _ (List.mem_append_right _ (List.mem_append_right _ (List.mem_append_right _ (List.mem_append_left _ (List.mem_of_getElem? (l := tables_1_5) (i := 226) rfl)))))) rfl
theorem dX12_numberHere_0 : decode cX12_numberHere 0 = .ok (.aload_n 0, 1) := by decide +kernel
theorem dX12_numberHere_1 : decode cX12_numberHere 1 = .ok (.invokevirtual 105, 3) := by decide +kernel
theorem dX12_numberHere_4 : decode cX12_numberHere 4 = .ok (.pop, 1) := by decide +kernel
theorem dX12_numberHere_5 : decode cX12_numberHere 5 = .ok (.aload_n 0, 1) := by decide +kernel
theorem dX12_numberHere_6 : decode cX12_numberHere 6 = .ok (.aload_n 0, 1) := by decide +kernel
theorem dX12_numberHere_7 : decode cX12_numberHere 7 = .ok (.getfield 102, 3) := by decide +kernel
theorem dX12_numberHere_10 : decode cX12_numberHere 10 = .ok (.invokevirtual 120, 3) := by decide +kernel
theorem dX12_numberHere_13 : decode cX12_numberHere 13 = .ok (.ifCond .ne 13, 3) := by decide +kernel
theorem dX12_numberHere_26 : decode cX12_numberHere 26 = .ok (.aload_n 0, 1) := by decide +kernel
theorem dX12_numberHere_27 : decode cX12_numberHere 27 = .ok (.getfield 102, 3) := by decide +kernel
theorem dX12_numberHere_30 : decode cX12_numberHere 30 = .ok (.istore_n 3, 1) := by decide +kernel
theorem dX12_numberHere_31 : decode cX12_numberHere 31 = .ok (.iconst 0, 1) := by decide +kernel
theorem dX12_numberHere_32 : decode cX12_numberHere 32 = .ok (.istore 4, 2) := by decide +kernel
theorem dX12_numberHere_34 : decode cX12_numberHere 34 = .ok (.aload_n 0, 1) := by decide +kernel
theorem dX12_numberHere_35 : decode cX12_numberHere 35 = .ok (.aload_n 0, 1) := by decide +kernel
theorem dX12_numberHere_36 : decode cX12_numberHere 36 = .ok (.getfield 102, 3) := by decide +kernel
theorem dX12_numberHere_39 : decode cX12_numberHere 39 = .ok (.invokevirtual 120, 3) := by decide +kernel
theorem dX12_numberHere_42 : decode cX12_numberHere 42 = .ok (.ifCond .eq 46, 3) := by decide +kernel
theorem dX12_numberHere_45 : decode cX12_numberHere 45 = .ok (.aload_n 0, 1) := by decide +kernel
theorem dX12_numberHere_46 : decode cX12_numberHere 46 = .ok (.getfield 102, 3) := by decide +kernel
theorem dX12_numberHere_49 : decode cX12_numberHere 49 = .ok (.iload_n 3, 1) := by decide +kernel
theorem dX12_numberHere_50 : decode cX12_numberHere 50 = .ok (.isub, 1) := by decide +kernel
theorem dX12_numberHere_51 : decode cX12_numberHere 51 = .ok (.iconst 5, 1) := by decide +kernel
theorem dX12_numberHere_52 : decode cX12_numberHere 52 = .ok (.if_icmp .ge 23, 3) := by decide +kernel
theorem dX12_numberHere_75 : decode cX12_numberHere 75 = .ok (.aload_n 0, 1) := by decide +kernel
theorem dX12_numberHere_76 : decode cX12_numberHere 76 = .ok (.dup, 1) := by decide +kernel
theorem dX12_numberHere_77 : decode cX12_numberHere 77 = .ok (.getfield 102, 3) := by decide +kernel
theorem dX12_numberHere_80 : decode cX12_numberHere 80 = .ok (.iconst 1, 1) := by decide +kernel
theorem dX12_numberHere_81 : decode cX12_numberHere 81 = .ok (.iadd, 1) := by decide +kernel
theorem dX12_numberHere_82 : decode cX12_numberHere 82 = .ok (.putfield 102, 3) := by decide +kernel
theorem dX12_numberHere_85 : decode cX12_numberHere 85 = .ok (.goto (-51), 3) := by decide +kernel
theorem dX12_numberHere_55 : decode cX12_numberHere 55 = .ok (.bipush 10, 2) := by decide +kernel
theorem dX12_numberHere_57 : decode cX12_numberHere 57 = .ok (.iload 4, 2) := by decide +kernel
theorem dX12_numberHere_59 : decode cX12_numberHere 59 = .ok (.imul, 1) := by decide +kernel
theorem dX12_numberHere_60 : decode cX12_numberHere 60 = .ok (.aload_n 0, 1) := by decide +kernel
theorem dX12_numberHere_61 : decode cX12_numberHere 61 = .ok (.getfield 7, 3) := by decide +kernel
theorem dX12_numberHere_64 : decode cX12_numberHere 64 = .ok (.aload_n 0, 1) := by decide +kernel
theorem dX12_numberHere_65 : decode cX12_numberHere 65 = .ok (.getfield 102, 3) := by decide +kernel
theorem dX12_numberHere_68 : decode cX12_numberHere 68 = .ok (.baload, 1) := by decide +kernel
theorem dX12_numberHere_69 : decode cX12_numberHere 69 = .ok (.iadd, 1) := by decide +kernel
theorem dX12_numberHere_70 : decode cX12_numberHere 70 = .ok (.bipush 48, 2) := by decide +kernel
theorem dX12_numberHere_72 : decode cX12_numberHere 72 = .ok (.isub, 1) := by decide +kernel
theorem dX12_numberHere_73 : decode cX12_numberHere 73 = .ok (.istore 4, 2) := by decide +kernel
theorem dX12_numberHere_88 : decode cX12_numberHere 88 = .ok (.aload_n 0, 1) := by decide +kernel
theorem dX12_numberHere_89 : decode cX12_numberHere 89 = .ok (.iload 4, 2) := by decide +kernel
theorem dX12_numberHere_91 : decode cX12_numberHere 91 = .ok (.putfield 127, 3) := by decide +kernel
theorem dX12_numberHere_94 : decode cX12_numberHere 94 = .ok (.aload_n 0, 1) := by decide +kernel
theorem dX12_numberHere_95 : decode cX12_numberHere 95 = .ok (.getfield 102, 3) := by decide +kernel
theorem dX12_numberHere_98 : decode cX12_numberHere 98 = .ok (.iload_n 3, 1) := by decide +kernel
theorem dX12_numberHere_99 : decode cX12_numberHere 99 = .ok (.isub, 1) := by decide +kernel
theorem dX12_numberHere_100 : decode cX12_numberHere 100 = .ok (.iconst 5, 1) := by decide +kernel
theorem dX12_numberHere_101 : decode cX12_numberHere 101 = .ok (.if_icmp .gt 16, 3) := by decide +kernel
theorem dX12_numberHere_117 : decode cX12_numberHere 117 = .ok (.aload_n 0, 1) := by decide +kernel
theorem dX12_numberHere_118 : decode cX12_numberHere 118 = .ok (.iconst 1, 1) := by decide +kernel
theorem dX12_numberHere_119 : decode cX12_numberHere 119 = .ok (.iload_n 3, 1) := by decide +kernel
theorem dX12_numberHere_120 : decode cX12_numberHere 120 = .ok (.invokevirtual 123, 3) := by decide +kernel
theorem dX12_numberHere_123 : decode cX12_numberHere 123 = .ok (.ifCond .eq 7, 3) := by decide +kernel
theorem dX12_numberHere_130 : decode cX12_numberHere 130 = .ok (.iconst 0, 1) := by decide +kernel
theorem dX12_numberHere_131 : decode cX12_numberHere 131 = .ok (.ireturn, 1) := by decide +kernel
theorem dX12_numberHere_104 : decode cX12_numberHere 104 = .ok (.iload 4, 2) := by decide +kernel
theorem dX12_numberHere_106 : decode cX12_numberHere 106 = .ok (.i2l, 1) := by decide +kernel
theorem dX12_numberHere_107 : decode cX12_numberHere 107 = .ok (.iload_n 1, 1) := by decide +kernel
theorem dX12_numberHere_108 : decode cX12_numberHere 108 = .ok (.i2l, 1) := by decide +kernel
theorem dX12_numberHere_109 : decode cX12_numberHere 109 = .ok (.iload_n 2, 1) := by decide +kernel
theorem dX12_numberHere_110 : decode cX12_numberHere 110 = .ok (.i2l, 1) := by decide +kernel
theorem dX12_numberHere_111 : decode cX12_numberHere 111 = .ok (.invokestatic 130, 3) := by decide +kernel
theorem dX12_numberHere_114 : decode cX12_numberHere 114 = .ok (.ifCond .ne 12, 3) := by decide +kernel
theorem dX12_numberHere_126 : decode cX12_numberHere 126 = .ok (.iconst 1, 1) := by decide +kernel
theorem dX12_numberHere_127 : decode cX12_numberHere 127 = .ok (.goto 4, 3) := by decide +kernel
theorem dX12_numberHere_16 : decode cX12_numberHere 16 = .ok (.aload_n 0, 1) := by decide +kernel
theorem dX12_numberHere_17 : decode cX12_numberHere 17 = .ok (.iconst 0, 1) := by decide +kernel
theorem dX12_numberHere_18 : decode cX12_numberHere 18 = .ok (.aload_n 0, 1) := by decide +kernel
theorem dX12_numberHere_19 : decode cX12_numberHere 19 = .ok (.getfield 102, 3) := by decide +kernel
theorem dX12_numberHere_22 : decode cX12_numberHere 22 = .ok (.invokevirtual 123, 3) := by decide +kernel
theorem dX12_numberHere_25 : decode cX12_numberHere 25 = .ok (.ireturn, 1) := by decide +kernel
theorem mv_X12_isDigit : MV RX12 yX12_isDigit cX12_isDigit 2 (some .boolean) 1 := ⟨mw_6_183, mp_4_7, mw_1_13, mw_6_184, ⟨rfl, by decide, by decide, by decide +kernel⟩⟩
set_option maxHeartbeats 4000000 in
set_option maxRecDepth 100000 in
theorem cy_X12_numberHere (l : Launch) (D : va_G) (cA : Nat → ClassId) (L : List Nat) (T : Nat → Nat) (r : Rg) (hG : GR L T r) (hL : L.Nodup) (σ : Sg) (ρ : Lg) (hW : WT L ry T σ) (sz : Nat) (h0 : Nat) (mh0 : h0 ∈ L) (th0 : T h0 = 12) (p1 : Int32) (p2 : Int32) : Met l yX12_numberHere (.code yX12_numberHere cX12_numberHere 5 (some .boolean) :: wsA) ({ frames := 1, cells := 0, slots := 0, locals := 25 }) (PR D cA L T r σ ρ sz [.ref h0, .int p1, .int p2]) (QI D cA L T r ry [(12, 8), (12, 9), (12, 10)] σ sz (fun x σ1 => (0 ≤ x.toInt ∧ x.toInt ≤ 1) ∧ ((σ h0 8).toInt ≤ (σ1 h0 8).toInt) ∧ (x.toInt = 1 → p1.toInt ≤ (σ1 h0 10).toInt ∧ (σ1 h0 10).toInt ≤ p2.toInt))) 0 0 (dm L sz) := by
  refine Met.ofW (cc := cX12_numberHere) (maxL := 5) (ret := (some .boolean)) (by decide) rfl ?_
  intro p e s m args below meth c s₁ B hml hv
  obtain ⟨rfl, hsz, hP, hK, hN⟩ := hv
  have hx := B.exec
  have hb := B.bytes
  have hr := B.returns
  have hts : ∀ w ∈ wsA, w.before _ s = true := fun w h => atoms_spec (ws := .code yX12_numberHere cX12_numberHere 5 (some .boolean) :: wsA) B.pre w (List.mem_cons_of_mem _ h)
  have hown : s.vm.findClass RX12 = some m.cls := findClass_of_methodNamed B.named
  subst hsz
  have hLA : LA (dm L s.heap.size) L := ⟨hL, fun a h => Or.inl h⟩
  have hA : ∀ q : Nat, s.heap.size ≤ q → dm L s.heap.size q := fun q h => Or.inr h
  have hS : va_S (dm L s.heap.size) s.heap s.heap [] := va_S.rf
  have hB : TS D cA L T r ry [(12, 8), (12, 9), (12, 10)] σ σ ρ s.heap := ⟨hP, hW, FR.rf⟩
  have hl := lv_entry ([.ref h0, .int p1, .int p2]) (n := 5) (Nat.le_of_ble_eq_true rfl)
  rw [lg_entry_eq]
  generalize (lg_sl ([.ref h0, .int p1, .int p2]) ++ List.replicate (5 - (lg_sl ([.ref h0, .int p1, .int p2])).length) Slot.unset).toArray = ls at hl ⊢
  have hl : lv_has ls 5 [(0, .ref h0), (1, .int p1), (2, .int p2)] := hl
  have w_1 : 0 ≤ (σ h0 8).toInt ∧ (σ h0 8).toInt ≤ 400 := by have z := hB.2.1 h0 mh0 8; rw [th0] at z; exact z
  have w_2 : 0 ≤ (σ h0 1).toInt ∧ (σ h0 1).toInt ≤ 400 := by have z := hB.2.1 h0 mh0 1; rw [th0] at z; exact z
  refine lv_aload_n hx hb dX12_numberHere_0 rfl (lv_at hl 0 rfl) ?_
  refine t_ci (va_runV (As := []) (rest := []) ⟨hx, hb, hml, hown, hts⟩ (cy_X12_see l D cA L T r hG hLA.1 σ ρ hB.2.1 _ h0 mh0 th0) (cV hts mv_X12_see mw_6_134 rfl rfl ⟨Nat.le_of_ble_eq_true rfl, Nat.le_of_ble_eq_true rfl⟩) (pV hB.1 hK hN mh0 th0 (show shp cA 12 _ _ _ = .inr (12, Fs12 _ _ _) from rfl) rfl) rfl rfl hl.1 rfl (lv_room (Nat.le_of_ble_eq_true rfl)) dX12_numberHere_1 ⟨Nat.le_of_ble_eq_true rfl, Nat.le_of_ble_eq_true rfl⟩) hLA hA hB hS (by decide) (fun x_5 σ_3 ρ_4 H locs hB fσ_3 pσ_3 hS => ?_)
  obtain ⟨g_6, g_7, g_8⟩ := pσ_3
  have w_9 : 0 ≤ (σ_3 h0 8).toInt ∧ (σ_3 h0 8).toInt ≤ 400 := by have z := hB.2.1 h0 mh0 8; rw [th0] at z; exact z
  obtain ⟨lx_5, ux_5⟩ := g_6
  refine lv_pop hx hb dX12_numberHere_4 rfl ?_
  refine lv_aload_n hx hb dX12_numberHere_5 rfl (lv_at hl 0 rfl) ?_
  refine lv_aload_n hx hb dX12_numberHere_6 rfl (lv_at hl 0 rfl) ?_
  refine t_gv hx hb hts hown hK hB mh0 th0 fi_12_8 rfl mw_5_224 dX12_numberHere_7 ?_
  refine t_ci (va_runV (As := [.int (σ_3 h0 8)]) (rest := []) ⟨hx, hb, hml, hown, hts⟩ (cy_X12_isDigit l D cA L T r hG hLA.1 σ_3 ρ_4 hB.2.1 _ h0 mh0 th0 ((σ_3 h0 8)) (by first | omega | decide)) (cV hts mv_X12_isDigit mw_6_181 rfl rfl ⟨Nat.le_of_ble_eq_true rfl, Nat.le_of_ble_eq_true rfl⟩) (pV hB.1 hK hN mh0 th0 (show shp cA 12 _ _ _ = .inr (12, Fs12 _ _ _) from rfl) rfl) rfl rfl hl.1 rfl (lv_room (Nat.le_of_ble_eq_true rfl)) dX12_numberHere_10 ⟨Nat.le_of_ble_eq_true rfl, Nat.le_of_ble_eq_true rfl⟩) hLA hA hB hS (by decide) (fun x_12 σ_10 ρ_11 H locs hB fσ_10 pσ_10 hS => ?_)
  have qσ_10 := FR.nil fσ_10
  subst qσ_10
  obtain ⟨ox_12, ix_12⟩ := pσ_10
  refine lv_if_ne (tgt := 26) hx hb dX12_numberHere_13 (by decide) (fun c_13 => ?_) (fun c_13 => ?_)
  · skip
    have uc_13 := i_ne (n := 0) (by decide) c_13
    refine lv_aload_n hx hb dX12_numberHere_26 rfl (lv_at hl 0 rfl) ?_
    refine t_gv hx hb hts hown hK hB mh0 th0 fi_12_8 rfl mw_5_224 dX12_numberHere_27 ?_
    refine lv_istore_n (lv' := [(3, .int (σ_3 h0 8)), (0, .ref h0), (1, .int p1), (2, .int p2)]) hx hb dX12_numberHere_30 rfl hl (by decide) rfl (fun ls hl => ?_)
    refine lv_iconst (v := 0) hx hb dX12_numberHere_31 (by decide) ?_
    refine lv_istore (lv' := [(4, .int 0), (3, .int (σ_3 h0 8)), (0, .ref h0), (1, .int p1), (2, .int p2)]) hx hb dX12_numberHere_32 hl (by decide) rfl (fun ls hl => ?_)
    have k_14 : σ_3 h0 1 = (σ h0 1) := (FR.at fσ_3 th0 (by decide)).trans rfl
    refine w_loop (α := Int32 × Sg × Lg) (fun (i_15, σ_16, ρ_17) H locs ls => σ_16 h0 1 = (σ h0 1) ∧ ((σ h0 8).toInt ≤ (σ_16 h0 8).toInt) ∧ TS D cA L T r ry [(12, 8), (12, 9), (12, 10)] σ σ_16 ρ_17 H ∧ va_S (dm L s.heap.size) s.heap H locs ∧ lv_has ls 5 [(4, .int i_15), (3, .int (σ_3 h0 8)), (0, .ref h0), (1, .int p1), (2, .int p2)]) (fun (i_15, σ_16, ρ_17) => (400 - (σ_16 h0 8).toInt).toNat) ?_ ⟨0, σ_3, ρ_11⟩ ⟨k_14, (by omega), hB, hS, lv_sub hl [0, 1, 2, 3, 4] rfl⟩
    rintro ⟨i_15, σ_16, ρ_17⟩ H locs ls ⟨k_19, g_20, hB, hS, hl⟩ ih_18
    have w_21 : 0 ≤ (σ_16 h0 8).toInt ∧ (σ_16 h0 8).toInt ≤ 400 := by have z := hB.2.1 h0 mh0 8; rw [th0] at z; exact z
    have cq1 := congrArg Int32.toInt k_19
    refine lv_aload_n hx hb dX12_numberHere_34 rfl (lv_at hl 2 rfl) ?_
    refine lv_aload_n hx hb dX12_numberHere_35 rfl (lv_at hl 2 rfl) ?_
    refine t_gv hx hb hts hown hK hB mh0 th0 fi_12_8 rfl mw_5_224 dX12_numberHere_36 ?_
    refine t_ci (va_runV (As := [.int (σ_16 h0 8)]) (rest := []) ⟨hx, hb, hml, hown, hts⟩ (cy_X12_isDigit l D cA L T r hG hLA.1 σ_16 ρ_17 hB.2.1 _ h0 mh0 th0 ((σ_16 h0 8)) (by first | omega | decide)) (cV hts mv_X12_isDigit mw_6_181 rfl rfl ⟨Nat.le_of_ble_eq_true rfl, Nat.le_of_ble_eq_true rfl⟩) (pV hB.1 hK hN mh0 th0 (show shp cA 12 _ _ _ = .inr (12, Fs12 _ _ _) from rfl) rfl) rfl rfl hl.1 rfl (lv_room (Nat.le_of_ble_eq_true rfl)) dX12_numberHere_39 ⟨Nat.le_of_ble_eq_true rfl, Nat.le_of_ble_eq_true rfl⟩) hLA hA hB hS (by decide) (fun x_24 σ_22 ρ_23 H locs hB fσ_22 pσ_22 hS => ?_)
    have qσ_22 := FR.nil fσ_22
    subst qσ_22
    obtain ⟨ox_24, ix_24⟩ := pσ_22
    refine lv_if_eq (tgt := 88) hx hb dX12_numberHere_42 (by decide) (fun c_25 => ?_) (fun c_25 => ?_)
    · skip
      have uc_25 := i_eq (n := 0) (by decide) c_25
      refine lv_aload_n hx hb dX12_numberHere_88 rfl (lv_at hl 2 rfl) ?_
      refine lv_iload hx hb dX12_numberHere_89 (lv_at hl 0 rfl) ?_
      refine t_pi hx hb hts hown hK hLA hB hS mh0 th0 fi_12_10 rfl rfl rfl (i_lo _) (i_hi _) (Or.inl (by decide)) mw_5_226 dX12_numberHere_91 (fun H locs σ_26 eσ_26 hB hS => ?_)
      have k_27 : σ_26 h0 10 = i_15 := by rw [eσ_26]; exact up2_same _ _ _ _
      refine lv_aload_n hx hb dX12_numberHere_94 rfl (lv_at hl 2 rfl) ?_
      have k_28 : σ_26 h0 8 = (σ_16 h0 8) := by rw [eσ_26, up2_nej _ _ (by decide)]
      refine t_gv hx hb hts hown hK hB mh0 th0 fi_12_8 k_28 mw_5_224 dX12_numberHere_95 ?_
      refine lv_iload_n hx hb dX12_numberHere_98 rfl (lv_at hl 1 rfl) ?_
      refine lv_isub hx hb dX12_numberHere_99 ?_
      refine lv_topi (fun x_29 ex_29 => ?_)
      have vx_29 := b_sub (rfl : (σ_16 h0 8).toInt = _) (rfl : (σ_3 h0 8).toInt = _) ex_29 (by omega) (by omega)
      refine lv_iconst (v := 5) hx hb dX12_numberHere_100 (by decide) ?_
      refine lv_icmp_gt (tgt := 117) hx hb dX12_numberHere_101 (by decide) (fun c_30 => ?_) (fun c_30 => ?_)
      · skip
        have uc_30 := i_gt (n := 5) (by decide) c_30
        refine lv_aload_n hx hb dX12_numberHere_117 rfl (lv_at hl 2 rfl) ?_
        refine lv_iconst (v := 1) hx hb dX12_numberHere_118 (by decide) ?_
        refine lv_iload_n hx hb dX12_numberHere_119 rfl (lv_at hl 1 rfl) ?_
        refine t_ci (va_runV (As := [.int 1, .int (σ_3 h0 8)]) (rest := []) ⟨hx, hb, hml, hown, hts⟩ (cy_X12_fails l D cA L T r hG hLA.1 σ_26 ρ_23 hB.2.1 _ h0 mh0 th0 1 ((σ_3 h0 8)) (by first | omega | decide) (by first | omega | decide) (by first | omega | decide) (by first | omega | decide)) (cV hts mv_X12_fails mw_6_157 rfl rfl ⟨Nat.le_of_ble_eq_true rfl, Nat.le_of_ble_eq_true rfl⟩) (pV hB.1 hK hN mh0 th0 (show shp cA 12 _ _ _ = .inr (12, Fs12 _ _ _) from rfl) rfl) rfl rfl hl.1 rfl (lv_room (Nat.le_of_ble_eq_true rfl)) dX12_numberHere_120 ⟨Nat.le_of_ble_eq_true rfl, Nat.le_of_ble_eq_true rfl⟩) hLA hA hB hS (by decide) (fun x_33 σ_31 ρ_32 H locs hB fσ_31 pσ_31 hS => ?_)
        subst pσ_31
        refine lv_if_eq (tgt := 130) hx hb dX12_numberHere_123 (by decide) (fun _ => ?_) (fun c9 => absurd (by decide) c9)
        refine lv_iconst (v := 0) hx hb dX12_numberHere_130 (by decide) ?_
        have k_34 : σ_31 h0 8 = (σ_16 h0 8) := (FR.at fσ_31 th0 (by decide)).trans k_28
        exact W.zret (v := 0) hx hb hr rfl (fun t ht hW => ⟨⟨0, (σ_31, ρ_32), rfl, ⟨hB.2.1, hB.2.2, ⟨(show 0 ≤ (0 : Int32).toInt ∧ (0 : Int32).toInt ≤ 1 from ⟨by decide, by decide⟩), (show (σ h0 8).toInt ≤ (σ_31 h0 8).toInt from (by rw [k_34]; omega)), (show (0 : Int32).toInt = 1 → p1.toInt ≤ (σ_31 h0 10).toInt ∧ (σ_31 h0 10).toInt ≤ p2.toInt from (fun h => absurd h (by decide)))⟩⟩, (show TP D cA L T r σ_31 ρ_32 t.heap from by rw [ht]; exact hB.1)⟩, hS.F ht⟩) hS.2.2 dX12_numberHere_131
      · skip
        have uc_30 := i_ngt (n := 5) (by decide) c_30
        refine lv_iload hx hb dX12_numberHere_104 (lv_at hl 0 rfl) ?_
        refine lv_i2l (v := i_15.toInt64) hx hb dX12_numberHere_106 rfl ?_
        refine lv_iload_n hx hb dX12_numberHere_107 rfl (lv_at hl 3 rfl) ?_
        refine lv_i2l (v := p1.toInt64) hx hb dX12_numberHere_108 rfl ?_
        refine lv_iload_n hx hb dX12_numberHere_109 rfl (lv_at hl 4 rfl) ?_
        refine lv_i2l (v := p2.toInt64) hx hb dX12_numberHere_110 rfl ?_
        refine t_ci (va_runS (As := [.long i_15.toInt64, .long p1.toInt64, .long p2.toInt64]) (rest := []) ⟨hx, hb, hml, hown, hts⟩ (cy_X12_in_g l D cA L T r hG hLA.1 σ_26 ρ_23 hB.2.1 _ i_15 p1 p2) (cS hts ms_X12_in mw_6_185 rfl rfl ⟨Nat.le_of_ble_eq_true rfl, Nat.le_of_ble_eq_true rfl⟩) (pS hB.1 hK hN) rfl rfl hl.1 rfl (lv_room (Nat.le_of_ble_eq_true rfl)) dX12_numberHere_111 ⟨Nat.le_of_ble_eq_true rfl, Nat.le_of_ble_eq_true rfl⟩) hLA hA hB hS (by decide) (fun x_37 σ_35 ρ_36 H locs hB fσ_35 pσ_35 hS => ?_)
        have qσ_35 := FR.nil fσ_35
        subst qσ_35
        obtain ⟨ox_37, ix_37⟩ := pσ_35
        refine lv_if_ne (tgt := 126) hx hb dX12_numberHere_114 (by decide) (fun c_38 => ?_) (fun c_38 => ?_)
        · skip
          have uc_38 := i_ne (n := 0) (by decide) c_38
          refine lv_iconst (v := 1) hx hb dX12_numberHere_126 (by decide) ?_
          refine lv_goto (tgt := 131) hx hb dX12_numberHere_127 (by decide) ?_
          exact W.zret (v := 1) hx hb hr rfl (fun t ht hW => ⟨⟨1, (σ_26, ρ_36), rfl, ⟨hB.2.1, hB.2.2, ⟨(show 0 ≤ (1 : Int32).toInt ∧ (1 : Int32).toInt ≤ 1 from ⟨by decide, by decide⟩), (show (σ h0 8).toInt ≤ (σ_26 h0 8).toInt from (by rw [k_28]; omega)), (show (1 : Int32).toInt = 1 → p1.toInt ≤ (σ_26 h0 10).toInt ∧ (σ_26 h0 10).toInt ≤ p2.toInt from (fun h => (by rw [k_27]; omega)))⟩⟩, (show TP D cA L T r σ_26 ρ_36 t.heap from by rw [ht]; exact hB.1)⟩, hS.F ht⟩) hS.2.2 dX12_numberHere_131
        · skip
          have uc_38 := i_eq (n := 0) (by decide) c_38
          refine lv_aload_n hx hb dX12_numberHere_117 rfl (lv_at hl 2 rfl) ?_
          refine lv_iconst (v := 1) hx hb dX12_numberHere_118 (by decide) ?_
          refine lv_iload_n hx hb dX12_numberHere_119 rfl (lv_at hl 1 rfl) ?_
          refine t_ci (va_runV (As := [.int 1, .int (σ_3 h0 8)]) (rest := []) ⟨hx, hb, hml, hown, hts⟩ (cy_X12_fails l D cA L T r hG hLA.1 σ_26 ρ_36 hB.2.1 _ h0 mh0 th0 1 ((σ_3 h0 8)) (by first | omega | decide) (by first | omega | decide) (by first | omega | decide) (by first | omega | decide)) (cV hts mv_X12_fails mw_6_157 rfl rfl ⟨Nat.le_of_ble_eq_true rfl, Nat.le_of_ble_eq_true rfl⟩) (pV hB.1 hK hN mh0 th0 (show shp cA 12 _ _ _ = .inr (12, Fs12 _ _ _) from rfl) rfl) rfl rfl hl.1 rfl (lv_room (Nat.le_of_ble_eq_true rfl)) dX12_numberHere_120 ⟨Nat.le_of_ble_eq_true rfl, Nat.le_of_ble_eq_true rfl⟩) hLA hA hB hS (by decide) (fun x_41 σ_39 ρ_40 H locs hB fσ_39 pσ_39 hS => ?_)
          subst pσ_39
          refine lv_if_eq (tgt := 130) hx hb dX12_numberHere_123 (by decide) (fun _ => ?_) (fun c9 => absurd (by decide) c9)
          refine lv_iconst (v := 0) hx hb dX12_numberHere_130 (by decide) ?_
          have k_42 : σ_39 h0 8 = (σ_16 h0 8) := (FR.at fσ_39 th0 (by decide)).trans k_28
          exact W.zret (v := 0) hx hb hr rfl (fun t ht hW => ⟨⟨0, (σ_39, ρ_40), rfl, ⟨hB.2.1, hB.2.2, ⟨(show 0 ≤ (0 : Int32).toInt ∧ (0 : Int32).toInt ≤ 1 from ⟨by decide, by decide⟩), (show (σ h0 8).toInt ≤ (σ_39 h0 8).toInt from (by rw [k_42]; omega)), (show (0 : Int32).toInt = 1 → p1.toInt ≤ (σ_39 h0 10).toInt ∧ (σ_39 h0 10).toInt ≤ p2.toInt from (fun h => absurd h (by decide)))⟩⟩, (show TP D cA L T r σ_39 ρ_40 t.heap from by rw [ht]; exact hB.1)⟩, hS.F ht⟩) hS.2.2 dX12_numberHere_131
    · skip
      have uc_25 := i_ne (n := 0) (by decide) c_25
      refine lv_aload_n hx hb dX12_numberHere_45 rfl (lv_at hl 2 rfl) ?_
      refine t_gv hx hb hts hown hK hB mh0 th0 fi_12_8 rfl mw_5_224 dX12_numberHere_46 ?_
      refine lv_iload_n hx hb dX12_numberHere_49 rfl (lv_at hl 1 rfl) ?_
      refine lv_isub hx hb dX12_numberHere_50 ?_
      refine lv_topi (fun x_43 ex_43 => ?_)
      have vx_43 := b_sub (rfl : (σ_16 h0 8).toInt = _) (rfl : (σ_3 h0 8).toInt = _) ex_43 (by omega) (by omega)
      refine lv_iconst (v := 5) hx hb dX12_numberHere_51 (by decide) ?_
      refine lv_icmp_ge (tgt := 75) hx hb dX12_numberHere_52 (by decide) (fun c_44 => ?_) (fun c_44 => ?_)
      · skip
        have uc_44 := i_ge (n := 5) (by decide) c_44
        refine lv_aload_n hx hb dX12_numberHere_75 rfl (lv_at hl 2 rfl) ?_
        refine lv_dup hx hb dX12_numberHere_76 rfl ?_
        refine t_gv hx hb hts hown hK hB mh0 th0 fi_12_8 rfl mw_5_224 dX12_numberHere_77 ?_
        refine lv_iconst (v := 1) hx hb dX12_numberHere_80 (by decide) ?_
        refine lv_iadd hx hb dX12_numberHere_81 ?_
        refine lv_topi (fun x_45 ex_45 => ?_)
        have vx_45 := b_add (rfl : (σ_16 h0 8).toInt = _) (by decide : (1 : Int32).toInt = 1) ex_45 (by omega) (by omega)
        refine t_pi hx hb hts hown hK hLA hB hS mh0 th0 fi_12_8 rfl rfl rfl (by first | omega | (subst_vars; omega)) (by first | omega | (subst_vars; omega)) (Or.inl (by decide)) mw_5_224 dX12_numberHere_82 (fun H locs σ_46 eσ_46 hB hS => ?_)
        have k_47 : σ_46 h0 8 = x_45 := by rw [eσ_46]; exact up2_same _ _ _ _
        refine lv_goto (tgt := 34) hx hb dX12_numberHere_85 (by decide) ?_
        have k_48 : σ_46 h0 1 = (σ h0 1) := by rw [eσ_46, up2_nej _ _ (by decide)]; exact k_19
        exact ih_18 ⟨i_15, σ_46, ρ_23⟩ _ _ _ ⟨k_48, (by rw [k_47]; omega), hB, hS, lv_sub hl [0, 1, 2, 3, 4] rfl⟩ (by show (400 - (σ_46 h0 8).toInt).toNat < (400 - (σ_16 h0 8).toInt).toNat; rw [k_47]; omega)
      · skip
        have uc_44 := i_nge (n := 5) (by decide) c_44
        refine lv_bipush (v := 10) hx hb dX12_numberHere_55 (by decide) ?_
        refine lv_iload hx hb dX12_numberHere_57 (lv_at hl 0 rfl) ?_
        refine lv_imul hx hb dX12_numberHere_59 ?_
        refine lv_topi (fun x_49 ex_49 => ?_)
        try have vx_49 := b_mul (by decide : (10 : Int32).toInt = 10) (rfl : i_15.toInt = _) ex_49 (by omega) (by omega)
        refine lv_aload_n hx hb dX12_numberHere_60 rfl (lv_at hl 2 rfl) ?_
        refine t_gr hx hb hts hown hK hG hB mh0 th0 fq_12_0 rfl mw_5_216 dX12_numberHere_61 (fun b_50 hb_50 mb_50 tb_50 => ?_)
        refine lv_aload_n hx hb dX12_numberHere_64 rfl (lv_at hl 2 rfl) ?_
        refine t_gv hx hb hts hown hK hB mh0 th0 fi_12_8 rfl mw_5_224 dX12_numberHere_65 ?_
        refine t_ab hx hb hK hB mb_50 tb_50 ai_61 (fun _ => rfl) (i_in (by omega) (by omega)) dX12_numberHere_68 (fun x_51 ex_51 lx_51 ux_51 => ?_)
        have cx_51 := congrArg Int32.toInt ex_51
        refine lv_iadd hx hb dX12_numberHere_69 ?_
        refine lv_topi (fun x_52 ex_52 => ?_)
        try have vx_52 := b_add (rfl : x_49.toInt = _) (rfl : x_51.toInt = _) ex_52 (by omega) (by omega)
        refine lv_bipush (v := 48) hx hb dX12_numberHere_70 (by decide) ?_
        refine lv_isub hx hb dX12_numberHere_72 ?_
        refine lv_topi (fun x_53 ex_53 => ?_)
        try have vx_53 := b_sub (rfl : x_52.toInt = _) (by decide : (48 : Int32).toInt = 48) ex_53 (by omega) (by omega)
        refine lv_istore (lv' := [(4, .int x_53), (3, .int (σ_3 h0 8)), (0, .ref h0), (1, .int p1), (2, .int p2)]) hx hb dX12_numberHere_73 hl (by decide) rfl (fun ls hl => ?_)
        refine lv_aload_n hx hb dX12_numberHere_75 rfl (lv_at hl 2 rfl) ?_
        refine lv_dup hx hb dX12_numberHere_76 rfl ?_
        refine t_gv hx hb hts hown hK hB mh0 th0 fi_12_8 rfl mw_5_224 dX12_numberHere_77 ?_
        refine lv_iconst (v := 1) hx hb dX12_numberHere_80 (by decide) ?_
        refine lv_iadd hx hb dX12_numberHere_81 ?_
        refine lv_topi (fun x_54 ex_54 => ?_)
        have vx_54 := b_add (rfl : (σ_16 h0 8).toInt = _) (by decide : (1 : Int32).toInt = 1) ex_54 (by omega) (by omega)
        refine t_pi hx hb hts hown hK hLA hB hS mh0 th0 fi_12_8 rfl rfl rfl (by first | omega | (subst_vars; omega)) (by first | omega | (subst_vars; omega)) (Or.inl (by decide)) mw_5_224 dX12_numberHere_82 (fun H locs σ_55 eσ_55 hB hS => ?_)
        have k_56 : σ_55 h0 8 = x_54 := by rw [eσ_55]; exact up2_same _ _ _ _
        refine lv_goto (tgt := 34) hx hb dX12_numberHere_85 (by decide) ?_
        have k_57 : σ_55 h0 1 = (σ h0 1) := by rw [eσ_55, up2_nej _ _ (by decide)]; exact k_19
        exact ih_18 ⟨x_53, σ_55, ρ_23⟩ _ _ _ ⟨k_57, (by rw [k_56]; omega), hB, hS, lv_sub hl [0, 1, 2, 3, 4] rfl⟩ (by show (400 - (σ_55 h0 8).toInt).toNat < (400 - (σ_16 h0 8).toInt).toNat; rw [k_56]; omega)
  · skip
    have uc_13 := i_eq (n := 0) (by decide) c_13
    refine lv_aload_n hx hb dX12_numberHere_16 rfl (lv_at hl 0 rfl) ?_
    refine lv_iconst (v := 0) hx hb dX12_numberHere_17 (by decide) ?_
    refine lv_aload_n hx hb dX12_numberHere_18 rfl (lv_at hl 0 rfl) ?_
    refine t_gv hx hb hts hown hK hB mh0 th0 fi_12_8 rfl mw_5_224 dX12_numberHere_19 ?_
    refine t_ci (va_runV (As := [.int 0, .int (σ_3 h0 8)]) (rest := []) ⟨hx, hb, hml, hown, hts⟩ (cy_X12_fails l D cA L T r hG hLA.1 σ_3 ρ_11 hB.2.1 _ h0 mh0 th0 0 ((σ_3 h0 8)) (by first | omega | decide) (by first | omega | decide) (by first | omega | decide) (by first | omega | decide)) (cV hts mv_X12_fails mw_6_157 rfl rfl ⟨Nat.le_of_ble_eq_true rfl, Nat.le_of_ble_eq_true rfl⟩) (pV hB.1 hK hN mh0 th0 (show shp cA 12 _ _ _ = .inr (12, Fs12 _ _ _) from rfl) rfl) rfl rfl hl.1 rfl (lv_room (Nat.le_of_ble_eq_true rfl)) dX12_numberHere_22 ⟨Nat.le_of_ble_eq_true rfl, Nat.le_of_ble_eq_true rfl⟩) hLA hA hB hS (by decide) (fun x_60 σ_58 ρ_59 H locs hB fσ_58 pσ_58 hS => ?_)
    subst pσ_58
    have k_61 : σ_58 h0 8 = (σ_3 h0 8) := (FR.at fσ_58 th0 (by decide)).trans rfl
    exact W.zret (v := 0) hx hb hr rfl (fun t ht hW => ⟨⟨0, (σ_58, ρ_59), rfl, ⟨hB.2.1, hB.2.2, ⟨(show 0 ≤ (0 : Int32).toInt ∧ (0 : Int32).toInt ≤ 1 from ⟨by decide, by decide⟩), (show (σ h0 8).toInt ≤ (σ_58 h0 8).toInt from (by rw [k_61]; omega)), (show (0 : Int32).toInt = 1 → p1.toInt ≤ (σ_58 h0 10).toInt ∧ (σ_58 h0 10).toInt ≤ p2.toInt from (fun h => absurd h (by decide)))⟩⟩, (show TP D cA L T r σ_58 ρ_59 t.heap from by rw [ht]; exact hB.1)⟩, hS.F ht⟩) hS.2.2 dX12_numberHere_25
theorem mw_6_152 : (.constantLong RX12 134 1650814564 : Cond) ∈ wsA := wsA_t (List.mem_append_right _ (List.mem_append_right _ (List.mem_append_right _ (List.mem_append_right _ (List.mem_append_right _ (List.mem_append_left _ (List.mem_of_getElem? (l := tables_1_6) (i := 152) rfl))))))) rfl
theorem mw_7_1 : (.constantLong RX12 136 439855772532 : Cond) ∈ wsA := wsA_t (List.mem_append_right _ (List.mem_append_right _ (List.mem_append_right _ (List.mem_append_right _ (List.mem_append_right _ (List.mem_append_right _ (List.mem_append_left _ (List.mem_of_getElem? (l := tables_1_7) (i := 1) rfl)))))))) rfl
theorem mw_7_2 : (.constantLong RX12 138 126879297138276 : Cond) ∈ wsA := wsA_t (List.mem_append_right _ (List.mem_append_right _ (List.mem_append_right _ (List.mem_append_right _ (List.mem_append_right _ (List.mem_append_right _ (List.mem_append_left _ (List.mem_of_getElem? (l := tables_1_7) (i := 2) rfl)))))))) rfl
theorem mw_7_3 : (.constantLong RX12 140 1634954099 : Cond) ∈ wsA := wsA_t (List.mem_append_right _ (List.mem_append_right _ (List.mem_append_right _ (List.mem_append_right _ (List.mem_append_right _ (List.mem_append_right _ (List.mem_append_left _ (List.mem_of_getElem? (l := tables_1_7) (i := 3) rfl)))))))) rfl
theorem mw_7_4 : (.constantLong RX12 142 474214787188 : Cond) ∈ wsA := wsA_t (List.mem_append_right _ (List.mem_append_right _ (List.mem_append_right _ (List.mem_append_right _ (List.mem_append_right _ (List.mem_append_right _ (List.mem_append_left _ (List.mem_of_getElem? (l := tables_1_7) (i := 4) rfl)))))))) rfl
theorem mw_7_5 : (.constantLong RX12 144 1869505907 : Cond) ∈ wsA := wsA_t (List.mem_append_right _ (List.mem_append_right _ (List.mem_append_right _ (List.mem_append_right _ (List.mem_append_right _ (List.mem_append_right _ (List.mem_append_left _ (List.mem_of_getElem? (l := tables_1_7) (i := 5) rfl)))))))) rfl
theorem mw_7_6 : (.constantLong RX12 146 1953984371 : Cond) ∈ wsA := wsA_t (List.mem_append_right _ (List.mem_append_right _ (List.mem_append_right _ (List.mem_append_right _ (List.mem_append_right _ (List.mem_append_right _ (List.mem_append_left _ (List.mem_of_getElem? (l := tables_1_7) (i := 6) rfl)))))))) rfl
theorem mw_6_155 : (.constantLong RX12 148 1751474544 : Cond) ∈ wsA := wsA_t (List.mem_append_right _ (List.mem_append_right _ (List.mem_append_right _ (List.mem_append_right _ (List.mem_append_right _ (List.mem_append_left _ (List.mem_of_getElem? (l := tables_1_6) (i := 155) rfl))))))) rfl
theorem mw_7_7 : (.constantLong RX12 150 123563851081060 : Cond) ∈ wsA := wsA_t (List.mem_append_right _ (List.mem_append_right _ (List.mem_append_right _ (List.mem_append_right _ (List.mem_append_right _ (List.mem_append_right _ (List.mem_append_left _ (List.mem_of_getElem? (l := tables_1_7) (i := 7) rfl)))))))) rfl
theorem mw_7_8 : (.constantLong RX12 152 1751478885 : Cond) ∈ wsA := wsA_t (List.mem_append_right _ (List.mem_append_right _ (List.mem_append_right _ (List.mem_append_right _ (List.mem_append_right _ (List.mem_append_right _ (List.mem_append_left _ (List.mem_of_getElem? (l := tables_1_7) (i := 8) rfl)))))))) rfl
theorem dX12_wordHere_0 : decode cX12_wordHere 0 = .ok (.aload_n 0, 1) := by decide +kernel
theorem dX12_wordHere_1 : decode cX12_wordHere 1 = .ok (.ldc2_w 134, 3) := by decide +kernel
theorem dX12_wordHere_4 : decode cX12_wordHere 4 = .ok (.invokevirtual 113, 3) := by decide +kernel
theorem dX12_wordHere_7 : decode cX12_wordHere 7 = .ok (.ifCond .eq 5, 3) := by decide +kernel
theorem dX12_wordHere_12 : decode cX12_wordHere 12 = .ok (.aload_n 0, 1) := by decide +kernel
theorem dX12_wordHere_13 : decode cX12_wordHere 13 = .ok (.ldc2_w 136, 3) := by decide +kernel
theorem dX12_wordHere_16 : decode cX12_wordHere 16 = .ok (.invokevirtual 113, 3) := by decide +kernel
theorem dX12_wordHere_19 : decode cX12_wordHere 19 = .ok (.ifCond .eq 5, 3) := by decide +kernel
theorem dX12_wordHere_24 : decode cX12_wordHere 24 = .ok (.aload_n 0, 1) := by decide +kernel
theorem dX12_wordHere_25 : decode cX12_wordHere 25 = .ok (.ldc2_w 138, 3) := by decide +kernel
theorem dX12_wordHere_28 : decode cX12_wordHere 28 = .ok (.invokevirtual 113, 3) := by decide +kernel
theorem dX12_wordHere_31 : decode cX12_wordHere 31 = .ok (.ifCond .eq 5, 3) := by decide +kernel
theorem dX12_wordHere_36 : decode cX12_wordHere 36 = .ok (.aload_n 0, 1) := by decide +kernel
theorem dX12_wordHere_37 : decode cX12_wordHere 37 = .ok (.ldc2_w 140, 3) := by decide +kernel
theorem dX12_wordHere_40 : decode cX12_wordHere 40 = .ok (.invokevirtual 113, 3) := by decide +kernel
theorem dX12_wordHere_43 : decode cX12_wordHere 43 = .ok (.ifCond .eq 5, 3) := by decide +kernel
theorem dX12_wordHere_48 : decode cX12_wordHere 48 = .ok (.aload_n 0, 1) := by decide +kernel
theorem dX12_wordHere_49 : decode cX12_wordHere 49 = .ok (.ldc2_w 142, 3) := by decide +kernel
theorem dX12_wordHere_52 : decode cX12_wordHere 52 = .ok (.invokevirtual 113, 3) := by decide +kernel
theorem dX12_wordHere_55 : decode cX12_wordHere 55 = .ok (.ifCond .eq 5, 3) := by decide +kernel
theorem dX12_wordHere_60 : decode cX12_wordHere 60 = .ok (.aload_n 0, 1) := by decide +kernel
theorem dX12_wordHere_61 : decode cX12_wordHere 61 = .ok (.ldc2_w 144, 3) := by decide +kernel
theorem dX12_wordHere_64 : decode cX12_wordHere 64 = .ok (.invokevirtual 113, 3) := by decide +kernel
theorem dX12_wordHere_67 : decode cX12_wordHere 67 = .ok (.ifCond .eq 5, 3) := by decide +kernel
theorem dX12_wordHere_72 : decode cX12_wordHere 72 = .ok (.aload_n 0, 1) := by decide +kernel
theorem dX12_wordHere_73 : decode cX12_wordHere 73 = .ok (.ldc2_w 146, 3) := by decide +kernel
theorem dX12_wordHere_76 : decode cX12_wordHere 76 = .ok (.invokevirtual 113, 3) := by decide +kernel
theorem dX12_wordHere_79 : decode cX12_wordHere 79 = .ok (.ifCond .eq 6, 3) := by decide +kernel
theorem dX12_wordHere_85 : decode cX12_wordHere 85 = .ok (.aload_n 0, 1) := by decide +kernel
theorem dX12_wordHere_86 : decode cX12_wordHere 86 = .ok (.ldc2_w 148, 3) := by decide +kernel
theorem dX12_wordHere_89 : decode cX12_wordHere 89 = .ok (.invokevirtual 113, 3) := by decide +kernel
theorem dX12_wordHere_92 : decode cX12_wordHere 92 = .ok (.ifCond .eq 6, 3) := by decide +kernel
theorem dX12_wordHere_98 : decode cX12_wordHere 98 = .ok (.aload_n 0, 1) := by decide +kernel
theorem dX12_wordHere_99 : decode cX12_wordHere 99 = .ok (.ldc2_w 150, 3) := by decide +kernel
theorem dX12_wordHere_102 : decode cX12_wordHere 102 = .ok (.invokevirtual 113, 3) := by decide +kernel
theorem dX12_wordHere_105 : decode cX12_wordHere 105 = .ok (.ifCond .eq 8, 3) := by decide +kernel
theorem dX12_wordHere_113 : decode cX12_wordHere 113 = .ok (.aload_n 0, 1) := by decide +kernel
theorem dX12_wordHere_114 : decode cX12_wordHere 114 = .ok (.ldc2_w 152, 3) := by decide +kernel
theorem dX12_wordHere_117 : decode cX12_wordHere 117 = .ok (.invokevirtual 113, 3) := by decide +kernel
theorem dX12_wordHere_120 : decode cX12_wordHere 120 = .ok (.ifCond .eq 8, 3) := by decide +kernel
theorem dX12_wordHere_128 : decode cX12_wordHere 128 = .ok (.iconst (-1), 1) := by decide +kernel
theorem dX12_wordHere_129 : decode cX12_wordHere 129 = .ok (.ireturn, 1) := by decide +kernel
theorem dX12_wordHere_123 : decode cX12_wordHere 123 = .ok (.bipush 9, 2) := by decide +kernel
theorem dX12_wordHere_125 : decode cX12_wordHere 125 = .ok (.goto 4, 3) := by decide +kernel
theorem dX12_wordHere_108 : decode cX12_wordHere 108 = .ok (.bipush 8, 2) := by decide +kernel
theorem dX12_wordHere_110 : decode cX12_wordHere 110 = .ok (.goto 19, 3) := by decide +kernel
theorem dX12_wordHere_95 : decode cX12_wordHere 95 = .ok (.bipush 7, 2) := by decide +kernel
theorem dX12_wordHere_97 : decode cX12_wordHere 97 = .ok (.ireturn, 1) := by decide +kernel
theorem dX12_wordHere_82 : decode cX12_wordHere 82 = .ok (.bipush 6, 2) := by decide +kernel
theorem dX12_wordHere_84 : decode cX12_wordHere 84 = .ok (.ireturn, 1) := by decide +kernel
theorem dX12_wordHere_70 : decode cX12_wordHere 70 = .ok (.iconst 5, 1) := by decide +kernel
theorem dX12_wordHere_71 : decode cX12_wordHere 71 = .ok (.ireturn, 1) := by decide +kernel
theorem dX12_wordHere_58 : decode cX12_wordHere 58 = .ok (.iconst 4, 1) := by decide +kernel
theorem dX12_wordHere_59 : decode cX12_wordHere 59 = .ok (.ireturn, 1) := by decide +kernel
theorem dX12_wordHere_46 : decode cX12_wordHere 46 = .ok (.iconst 3, 1) := by decide +kernel
theorem dX12_wordHere_47 : decode cX12_wordHere 47 = .ok (.ireturn, 1) := by decide +kernel
theorem dX12_wordHere_34 : decode cX12_wordHere 34 = .ok (.iconst 2, 1) := by decide +kernel
theorem dX12_wordHere_35 : decode cX12_wordHere 35 = .ok (.ireturn, 1) := by decide +kernel
theorem dX12_wordHere_22 : decode cX12_wordHere 22 = .ok (.iconst 1, 1) := by decide +kernel
theorem dX12_wordHere_23 : decode cX12_wordHere 23 = .ok (.ireturn, 1) := by decide +kernel
theorem dX12_wordHere_10 : decode cX12_wordHere 10 = .ok (.iconst 0, 1) := by decide +kernel
theorem dX12_wordHere_11 : decode cX12_wordHere 11 = .ok (.ireturn, 1) := by decide +kernel
set_option maxHeartbeats 4000000 in
set_option maxRecDepth 100000 in
theorem cy_X12_wordHere (l : Launch) (D : va_G) (cA : Nat → ClassId) (L : List Nat) (T : Nat → Nat) (r : Rg) (hG : GR L T r) (hL : L.Nodup) (σ : Sg) (ρ : Lg) (hW : WT L ry T σ) (sz : Nat) (h0 : Nat) (mh0 : h0 ∈ L) (th0 : T h0 = 12) : Met l yX12_wordHere (.code yX12_wordHere cX12_wordHere 1 (some .int) :: wsA) ({ frames := 2, cells := 0, slots := 0, locals := 46 }) (PR D cA L T r σ ρ sz [.ref h0]) (QI D cA L T r ry [(12, 8)] σ sz (fun x σ1 => ((-1) ≤ x.toInt ∧ x.toInt ≤ 9) ∧ ((σ h0 8).toInt ≤ (σ1 h0 8).toInt) ∧ (0 ≤ x.toInt → (σ1 h0 8).toInt < (σ1 h0 1).toInt))) 0 0 (dm L sz) := by
  refine Met.ofW (cc := cX12_wordHere) (maxL := 1) (ret := (some .int)) (by decide) rfl ?_
  intro p e s m args below meth c s₁ B hml hv
  obtain ⟨rfl, hsz, hP, hK, hN⟩ := hv
  have hx := B.exec
  have hb := B.bytes
  have hr := B.returns
  have hts : ∀ w ∈ wsA, w.before _ s = true := fun w h => atoms_spec (ws := .code yX12_wordHere cX12_wordHere 1 (some .int) :: wsA) B.pre w (List.mem_cons_of_mem _ h)
  have hown : s.vm.findClass RX12 = some m.cls := findClass_of_methodNamed B.named
  subst hsz
  have hLA : LA (dm L s.heap.size) L := ⟨hL, fun a h => Or.inl h⟩
  have hA : ∀ q : Nat, s.heap.size ≤ q → dm L s.heap.size q := fun q h => Or.inr h
  have hS : va_S (dm L s.heap.size) s.heap s.heap [] := va_S.rf
  have hB : TS D cA L T r ry [(12, 8)] σ σ ρ s.heap := ⟨hP, hW, FR.rf⟩
  have hl := lv_entry ([.ref h0]) (n := 1) (Nat.le_of_ble_eq_true rfl)
  rw [lg_entry_eq]
  generalize (lg_sl ([.ref h0]) ++ List.replicate (1 - (lg_sl ([.ref h0])).length) Slot.unset).toArray = ls at hl ⊢
  have hl : lv_has ls 1 [(0, .ref h0)] := hl
  have w_1 : 0 ≤ (σ h0 8).toInt ∧ (σ h0 8).toInt ≤ 400 := by have z := hB.2.1 h0 mh0 8; rw [th0] at z; exact z
  have w_2 : 0 ≤ (σ h0 1).toInt ∧ (σ h0 1).toInt ≤ 400 := by have z := hB.2.1 h0 mh0 1; rw [th0] at z; exact z
  refine lv_aload_n hx hb dX12_wordHere_0 rfl (lv_at hl 0 rfl) ?_
  refine lv_ldc2 (v := 1650814564) hx hb hown (hts _ mw_6_152) dX12_wordHere_1 ?_
  refine t_ci (va_runV (As := [.long 1650814564]) (rest := []) ⟨hx, hb, hml, hown, hts⟩ (cy_X12_isWord l D cA L T r hG hLA.1 σ ρ hB.2.1 _ h0 mh0 th0 1650814564) (cV hts mv_X12_isWord mw_6_143 rfl rfl ⟨Nat.le_of_ble_eq_true rfl, Nat.le_of_ble_eq_true rfl⟩) (pV hB.1 hK hN mh0 th0 (show shp cA 12 _ _ _ = .inr (12, Fs12 _ _ _) from rfl) rfl) rfl rfl hl.1 rfl (lv_room (Nat.le_of_ble_eq_true rfl)) dX12_wordHere_4 ⟨Nat.le_of_ble_eq_true rfl, Nat.le_of_ble_eq_true rfl⟩) hLA hA hB hS (by decide) (fun x_5 σ_3 ρ_4 H locs hB fσ_3 pσ_3 hS => ?_)
  obtain ⟨g_6, g_7, g_8⟩ := pσ_3
  have w_9 : 0 ≤ (σ_3 h0 8).toInt ∧ (σ_3 h0 8).toInt ≤ 400 := by have z := hB.2.1 h0 mh0 8; rw [th0] at z; exact z
  obtain ⟨lx_5, ux_5⟩ := g_6
  refine lv_if_eq (tgt := 12) hx hb dX12_wordHere_7 (by decide) (fun c_10 => ?_) (fun c_10 => ?_)
  · skip
    have uc_10 := i_eq (n := 0) (by decide) c_10
    refine lv_aload_n hx hb dX12_wordHere_12 rfl (lv_at hl 0 rfl) ?_
    refine lv_ldc2 (v := 439855772532) hx hb hown (hts _ mw_7_1) dX12_wordHere_13 ?_
    refine t_ci (va_runV (As := [.long 439855772532]) (rest := []) ⟨hx, hb, hml, hown, hts⟩ (cy_X12_isWord l D cA L T r hG hLA.1 σ_3 ρ_4 hB.2.1 _ h0 mh0 th0 439855772532) (cV hts mv_X12_isWord mw_6_143 rfl rfl ⟨Nat.le_of_ble_eq_true rfl, Nat.le_of_ble_eq_true rfl⟩) (pV hB.1 hK hN mh0 th0 (show shp cA 12 _ _ _ = .inr (12, Fs12 _ _ _) from rfl) rfl) rfl rfl hl.1 rfl (lv_room (Nat.le_of_ble_eq_true rfl)) dX12_wordHere_16 ⟨Nat.le_of_ble_eq_true rfl, Nat.le_of_ble_eq_true rfl⟩) hLA hA hB hS (by decide) (fun x_13 σ_11 ρ_12 H locs hB fσ_11 pσ_11 hS => ?_)
    obtain ⟨g_14, g_15, g_16⟩ := pσ_11
    have w_17 : 0 ≤ (σ_11 h0 8).toInt ∧ (σ_11 h0 8).toInt ≤ 400 := by have z := hB.2.1 h0 mh0 8; rw [th0] at z; exact z
    obtain ⟨lx_13, ux_13⟩ := g_14
    refine lv_if_eq (tgt := 24) hx hb dX12_wordHere_19 (by decide) (fun c_18 => ?_) (fun c_18 => ?_)
    · skip
      have uc_18 := i_eq (n := 0) (by decide) c_18
      refine lv_aload_n hx hb dX12_wordHere_24 rfl (lv_at hl 0 rfl) ?_
      refine lv_ldc2 (v := 126879297138276) hx hb hown (hts _ mw_7_2) dX12_wordHere_25 ?_
      refine t_ci (va_runV (As := [.long 126879297138276]) (rest := []) ⟨hx, hb, hml, hown, hts⟩ (cy_X12_isWord l D cA L T r hG hLA.1 σ_11 ρ_12 hB.2.1 _ h0 mh0 th0 126879297138276) (cV hts mv_X12_isWord mw_6_143 rfl rfl ⟨Nat.le_of_ble_eq_true rfl, Nat.le_of_ble_eq_true rfl⟩) (pV hB.1 hK hN mh0 th0 (show shp cA 12 _ _ _ = .inr (12, Fs12 _ _ _) from rfl) rfl) rfl rfl hl.1 rfl (lv_room (Nat.le_of_ble_eq_true rfl)) dX12_wordHere_28 ⟨Nat.le_of_ble_eq_true rfl, Nat.le_of_ble_eq_true rfl⟩) hLA hA hB hS (by decide) (fun x_21 σ_19 ρ_20 H locs hB fσ_19 pσ_19 hS => ?_)
      obtain ⟨g_22, g_23, g_24⟩ := pσ_19
      have w_25 : 0 ≤ (σ_19 h0 8).toInt ∧ (σ_19 h0 8).toInt ≤ 400 := by have z := hB.2.1 h0 mh0 8; rw [th0] at z; exact z
      obtain ⟨lx_21, ux_21⟩ := g_22
      refine lv_if_eq (tgt := 36) hx hb dX12_wordHere_31 (by decide) (fun c_26 => ?_) (fun c_26 => ?_)
      · skip
        have uc_26 := i_eq (n := 0) (by decide) c_26
        refine lv_aload_n hx hb dX12_wordHere_36 rfl (lv_at hl 0 rfl) ?_
        refine lv_ldc2 (v := 1634954099) hx hb hown (hts _ mw_7_3) dX12_wordHere_37 ?_
        refine t_ci (va_runV (As := [.long 1634954099]) (rest := []) ⟨hx, hb, hml, hown, hts⟩ (cy_X12_isWord l D cA L T r hG hLA.1 σ_19 ρ_20 hB.2.1 _ h0 mh0 th0 1634954099) (cV hts mv_X12_isWord mw_6_143 rfl rfl ⟨Nat.le_of_ble_eq_true rfl, Nat.le_of_ble_eq_true rfl⟩) (pV hB.1 hK hN mh0 th0 (show shp cA 12 _ _ _ = .inr (12, Fs12 _ _ _) from rfl) rfl) rfl rfl hl.1 rfl (lv_room (Nat.le_of_ble_eq_true rfl)) dX12_wordHere_40 ⟨Nat.le_of_ble_eq_true rfl, Nat.le_of_ble_eq_true rfl⟩) hLA hA hB hS (by decide) (fun x_29 σ_27 ρ_28 H locs hB fσ_27 pσ_27 hS => ?_)
        obtain ⟨g_30, g_31, g_32⟩ := pσ_27
        have w_33 : 0 ≤ (σ_27 h0 8).toInt ∧ (σ_27 h0 8).toInt ≤ 400 := by have z := hB.2.1 h0 mh0 8; rw [th0] at z; exact z
        obtain ⟨lx_29, ux_29⟩ := g_30
        refine lv_if_eq (tgt := 48) hx hb dX12_wordHere_43 (by decide) (fun c_34 => ?_) (fun c_34 => ?_)
        · skip
          have uc_34 := i_eq (n := 0) (by decide) c_34
          refine lv_aload_n hx hb dX12_wordHere_48 rfl (lv_at hl 0 rfl) ?_
          refine lv_ldc2 (v := 474214787188) hx hb hown (hts _ mw_7_4) dX12_wordHere_49 ?_
          refine t_ci (va_runV (As := [.long 474214787188]) (rest := []) ⟨hx, hb, hml, hown, hts⟩ (cy_X12_isWord l D cA L T r hG hLA.1 σ_27 ρ_28 hB.2.1 _ h0 mh0 th0 474214787188) (cV hts mv_X12_isWord mw_6_143 rfl rfl ⟨Nat.le_of_ble_eq_true rfl, Nat.le_of_ble_eq_true rfl⟩) (pV hB.1 hK hN mh0 th0 (show shp cA 12 _ _ _ = .inr (12, Fs12 _ _ _) from rfl) rfl) rfl rfl hl.1 rfl (lv_room (Nat.le_of_ble_eq_true rfl)) dX12_wordHere_52 ⟨Nat.le_of_ble_eq_true rfl, Nat.le_of_ble_eq_true rfl⟩) hLA hA hB hS (by decide) (fun x_37 σ_35 ρ_36 H locs hB fσ_35 pσ_35 hS => ?_)
          obtain ⟨g_38, g_39, g_40⟩ := pσ_35
          have w_41 : 0 ≤ (σ_35 h0 8).toInt ∧ (σ_35 h0 8).toInt ≤ 400 := by have z := hB.2.1 h0 mh0 8; rw [th0] at z; exact z
          obtain ⟨lx_37, ux_37⟩ := g_38
          refine lv_if_eq (tgt := 60) hx hb dX12_wordHere_55 (by decide) (fun c_42 => ?_) (fun c_42 => ?_)
          · skip
            have uc_42 := i_eq (n := 0) (by decide) c_42
            refine lv_aload_n hx hb dX12_wordHere_60 rfl (lv_at hl 0 rfl) ?_
            refine lv_ldc2 (v := 1869505907) hx hb hown (hts _ mw_7_5) dX12_wordHere_61 ?_
            refine t_ci (va_runV (As := [.long 1869505907]) (rest := []) ⟨hx, hb, hml, hown, hts⟩ (cy_X12_isWord l D cA L T r hG hLA.1 σ_35 ρ_36 hB.2.1 _ h0 mh0 th0 1869505907) (cV hts mv_X12_isWord mw_6_143 rfl rfl ⟨Nat.le_of_ble_eq_true rfl, Nat.le_of_ble_eq_true rfl⟩) (pV hB.1 hK hN mh0 th0 (show shp cA 12 _ _ _ = .inr (12, Fs12 _ _ _) from rfl) rfl) rfl rfl hl.1 rfl (lv_room (Nat.le_of_ble_eq_true rfl)) dX12_wordHere_64 ⟨Nat.le_of_ble_eq_true rfl, Nat.le_of_ble_eq_true rfl⟩) hLA hA hB hS (by decide) (fun x_45 σ_43 ρ_44 H locs hB fσ_43 pσ_43 hS => ?_)
            obtain ⟨g_46, g_47, g_48⟩ := pσ_43
            have w_49 : 0 ≤ (σ_43 h0 8).toInt ∧ (σ_43 h0 8).toInt ≤ 400 := by have z := hB.2.1 h0 mh0 8; rw [th0] at z; exact z
            obtain ⟨lx_45, ux_45⟩ := g_46
            refine lv_if_eq (tgt := 72) hx hb dX12_wordHere_67 (by decide) (fun c_50 => ?_) (fun c_50 => ?_)
            · skip
              have uc_50 := i_eq (n := 0) (by decide) c_50
              refine lv_aload_n hx hb dX12_wordHere_72 rfl (lv_at hl 0 rfl) ?_
              refine lv_ldc2 (v := 1953984371) hx hb hown (hts _ mw_7_6) dX12_wordHere_73 ?_
              refine t_ci (va_runV (As := [.long 1953984371]) (rest := []) ⟨hx, hb, hml, hown, hts⟩ (cy_X12_isWord l D cA L T r hG hLA.1 σ_43 ρ_44 hB.2.1 _ h0 mh0 th0 1953984371) (cV hts mv_X12_isWord mw_6_143 rfl rfl ⟨Nat.le_of_ble_eq_true rfl, Nat.le_of_ble_eq_true rfl⟩) (pV hB.1 hK hN mh0 th0 (show shp cA 12 _ _ _ = .inr (12, Fs12 _ _ _) from rfl) rfl) rfl rfl hl.1 rfl (lv_room (Nat.le_of_ble_eq_true rfl)) dX12_wordHere_76 ⟨Nat.le_of_ble_eq_true rfl, Nat.le_of_ble_eq_true rfl⟩) hLA hA hB hS (by decide) (fun x_53 σ_51 ρ_52 H locs hB fσ_51 pσ_51 hS => ?_)
              obtain ⟨g_54, g_55, g_56⟩ := pσ_51
              have w_57 : 0 ≤ (σ_51 h0 8).toInt ∧ (σ_51 h0 8).toInt ≤ 400 := by have z := hB.2.1 h0 mh0 8; rw [th0] at z; exact z
              obtain ⟨lx_53, ux_53⟩ := g_54
              refine lv_if_eq (tgt := 85) hx hb dX12_wordHere_79 (by decide) (fun c_58 => ?_) (fun c_58 => ?_)
              · skip
                have uc_58 := i_eq (n := 0) (by decide) c_58
                refine lv_aload_n hx hb dX12_wordHere_85 rfl (lv_at hl 0 rfl) ?_
                refine lv_ldc2 (v := 1751474544) hx hb hown (hts _ mw_6_155) dX12_wordHere_86 ?_
                refine t_ci (va_runV (As := [.long 1751474544]) (rest := []) ⟨hx, hb, hml, hown, hts⟩ (cy_X12_isWord l D cA L T r hG hLA.1 σ_51 ρ_52 hB.2.1 _ h0 mh0 th0 1751474544) (cV hts mv_X12_isWord mw_6_143 rfl rfl ⟨Nat.le_of_ble_eq_true rfl, Nat.le_of_ble_eq_true rfl⟩) (pV hB.1 hK hN mh0 th0 (show shp cA 12 _ _ _ = .inr (12, Fs12 _ _ _) from rfl) rfl) rfl rfl hl.1 rfl (lv_room (Nat.le_of_ble_eq_true rfl)) dX12_wordHere_89 ⟨Nat.le_of_ble_eq_true rfl, Nat.le_of_ble_eq_true rfl⟩) hLA hA hB hS (by decide) (fun x_61 σ_59 ρ_60 H locs hB fσ_59 pσ_59 hS => ?_)
                obtain ⟨g_62, g_63, g_64⟩ := pσ_59
                have w_65 : 0 ≤ (σ_59 h0 8).toInt ∧ (σ_59 h0 8).toInt ≤ 400 := by have z := hB.2.1 h0 mh0 8; rw [th0] at z; exact z
                obtain ⟨lx_61, ux_61⟩ := g_62
                refine lv_if_eq (tgt := 98) hx hb dX12_wordHere_92 (by decide) (fun c_66 => ?_) (fun c_66 => ?_)
                · skip
                  have uc_66 := i_eq (n := 0) (by decide) c_66
                  refine lv_aload_n hx hb dX12_wordHere_98 rfl (lv_at hl 0 rfl) ?_
                  refine lv_ldc2 (v := 123563851081060) hx hb hown (hts _ mw_7_7) dX12_wordHere_99 ?_
                  refine t_ci (va_runV (As := [.long 123563851081060]) (rest := []) ⟨hx, hb, hml, hown, hts⟩ (cy_X12_isWord l D cA L T r hG hLA.1 σ_59 ρ_60 hB.2.1 _ h0 mh0 th0 123563851081060) (cV hts mv_X12_isWord mw_6_143 rfl rfl ⟨Nat.le_of_ble_eq_true rfl, Nat.le_of_ble_eq_true rfl⟩) (pV hB.1 hK hN mh0 th0 (show shp cA 12 _ _ _ = .inr (12, Fs12 _ _ _) from rfl) rfl) rfl rfl hl.1 rfl (lv_room (Nat.le_of_ble_eq_true rfl)) dX12_wordHere_102 ⟨Nat.le_of_ble_eq_true rfl, Nat.le_of_ble_eq_true rfl⟩) hLA hA hB hS (by decide) (fun x_69 σ_67 ρ_68 H locs hB fσ_67 pσ_67 hS => ?_)
                  obtain ⟨g_70, g_71, g_72⟩ := pσ_67
                  have w_73 : 0 ≤ (σ_67 h0 8).toInt ∧ (σ_67 h0 8).toInt ≤ 400 := by have z := hB.2.1 h0 mh0 8; rw [th0] at z; exact z
                  obtain ⟨lx_69, ux_69⟩ := g_70
                  refine lv_if_eq (tgt := 113) hx hb dX12_wordHere_105 (by decide) (fun c_74 => ?_) (fun c_74 => ?_)
                  · skip
                    have uc_74 := i_eq (n := 0) (by decide) c_74
                    refine lv_aload_n hx hb dX12_wordHere_113 rfl (lv_at hl 0 rfl) ?_
                    refine lv_ldc2 (v := 1751478885) hx hb hown (hts _ mw_7_8) dX12_wordHere_114 ?_
                    refine t_ci (va_runV (As := [.long 1751478885]) (rest := []) ⟨hx, hb, hml, hown, hts⟩ (cy_X12_isWord l D cA L T r hG hLA.1 σ_67 ρ_68 hB.2.1 _ h0 mh0 th0 1751478885) (cV hts mv_X12_isWord mw_6_143 rfl rfl ⟨Nat.le_of_ble_eq_true rfl, Nat.le_of_ble_eq_true rfl⟩) (pV hB.1 hK hN mh0 th0 (show shp cA 12 _ _ _ = .inr (12, Fs12 _ _ _) from rfl) rfl) rfl rfl hl.1 rfl (lv_room (Nat.le_of_ble_eq_true rfl)) dX12_wordHere_117 ⟨Nat.le_of_ble_eq_true rfl, Nat.le_of_ble_eq_true rfl⟩) hLA hA hB hS (by decide) (fun x_77 σ_75 ρ_76 H locs hB fσ_75 pσ_75 hS => ?_)
                    obtain ⟨g_78, g_79, g_80⟩ := pσ_75
                    have w_81 : 0 ≤ (σ_75 h0 8).toInt ∧ (σ_75 h0 8).toInt ≤ 400 := by have z := hB.2.1 h0 mh0 8; rw [th0] at z; exact z
                    obtain ⟨lx_77, ux_77⟩ := g_78
                    refine lv_if_eq (tgt := 128) hx hb dX12_wordHere_120 (by decide) (fun c_82 => ?_) (fun c_82 => ?_)
                    · skip
                      have uc_82 := i_eq (n := 0) (by decide) c_82
                      refine lv_iconst (v := (-1)) hx hb dX12_wordHere_128 (by decide) ?_
                      exact W.iret (v := (-1)) hx hb hr (fun t ht hW => ⟨⟨(-1), (σ_75, ρ_76), rfl, ⟨hB.2.1, hB.2.2, ⟨(show (-1) ≤ ((-1) : Int32).toInt ∧ ((-1) : Int32).toInt ≤ 9 from ⟨by decide, by decide⟩), (show (σ h0 8).toInt ≤ (σ_75 h0 8).toInt from (by omega)), (show 0 ≤ ((-1) : Int32).toInt → (σ_75 h0 8).toInt < (σ_75 h0 1).toInt from (fun h => absurd h (by decide)))⟩⟩, (show TP D cA L T r σ_75 ρ_76 t.heap from by rw [ht]; exact hB.1)⟩, hS.F ht⟩) hS.2.2 dX12_wordHere_129
                    · skip
                      have uc_82 := i_ne (n := 0) (by decide) c_82
                      refine lv_bipush (v := 9) hx hb dX12_wordHere_123 (by decide) ?_
                      refine lv_goto (tgt := 129) hx hb dX12_wordHere_125 (by decide) ?_
                      have k_83 : σ_3 h0 1 = (σ h0 1) := (FR.at fσ_3 th0 (by decide)).trans rfl
                      have k_84 : σ_11 h0 1 = (σ h0 1) := (FR.at fσ_11 th0 (by decide)).trans k_83
                      have k_85 : σ_19 h0 1 = (σ h0 1) := (FR.at fσ_19 th0 (by decide)).trans k_84
                      have k_86 : σ_27 h0 1 = (σ h0 1) := (FR.at fσ_27 th0 (by decide)).trans k_85
                      have k_87 : σ_35 h0 1 = (σ h0 1) := (FR.at fσ_35 th0 (by decide)).trans k_86
                      have k_88 : σ_43 h0 1 = (σ h0 1) := (FR.at fσ_43 th0 (by decide)).trans k_87
                      have k_89 : σ_51 h0 1 = (σ h0 1) := (FR.at fσ_51 th0 (by decide)).trans k_88
                      have k_90 : σ_59 h0 1 = (σ h0 1) := (FR.at fσ_59 th0 (by decide)).trans k_89
                      have k_91 : σ_67 h0 1 = (σ h0 1) := (FR.at fσ_67 th0 (by decide)).trans k_90
                      have k_92 : σ_75 h0 1 = (σ h0 1) := (FR.at fσ_75 th0 (by decide)).trans k_91
                      exact W.iret (v := 9) hx hb hr (fun t ht hW => ⟨⟨9, (σ_75, ρ_76), rfl, ⟨hB.2.1, hB.2.2, ⟨(show (-1) ≤ (9 : Int32).toInt ∧ (9 : Int32).toInt ≤ 9 from ⟨by decide, by decide⟩), (show (σ h0 8).toInt ≤ (σ_75 h0 8).toInt from (by omega)), (show 0 ≤ (9 : Int32).toInt → (σ_75 h0 8).toInt < (σ_75 h0 1).toInt from (fun h => by first | omega | (rw [k_92]; omega)))⟩⟩, (show TP D cA L T r σ_75 ρ_76 t.heap from by rw [ht]; exact hB.1)⟩, hS.F ht⟩) hS.2.2 dX12_wordHere_129
                  · skip
                    have uc_74 := i_ne (n := 0) (by decide) c_74
                    refine lv_bipush (v := 8) hx hb dX12_wordHere_108 (by decide) ?_
                    refine lv_goto (tgt := 129) hx hb dX12_wordHere_110 (by decide) ?_
                    have k_93 : σ_3 h0 1 = (σ h0 1) := (FR.at fσ_3 th0 (by decide)).trans rfl
                    have k_94 : σ_11 h0 1 = (σ h0 1) := (FR.at fσ_11 th0 (by decide)).trans k_93
                    have k_95 : σ_19 h0 1 = (σ h0 1) := (FR.at fσ_19 th0 (by decide)).trans k_94
                    have k_96 : σ_27 h0 1 = (σ h0 1) := (FR.at fσ_27 th0 (by decide)).trans k_95
                    have k_97 : σ_35 h0 1 = (σ h0 1) := (FR.at fσ_35 th0 (by decide)).trans k_96
                    have k_98 : σ_43 h0 1 = (σ h0 1) := (FR.at fσ_43 th0 (by decide)).trans k_97
                    have k_99 : σ_51 h0 1 = (σ h0 1) := (FR.at fσ_51 th0 (by decide)).trans k_98
                    have k_100 : σ_59 h0 1 = (σ h0 1) := (FR.at fσ_59 th0 (by decide)).trans k_99
                    have k_101 : σ_67 h0 1 = (σ h0 1) := (FR.at fσ_67 th0 (by decide)).trans k_100
                    exact W.iret (v := 8) hx hb hr (fun t ht hW => ⟨⟨8, (σ_67, ρ_68), rfl, ⟨hB.2.1, hB.2.2, ⟨(show (-1) ≤ (8 : Int32).toInt ∧ (8 : Int32).toInt ≤ 9 from ⟨by decide, by decide⟩), (show (σ h0 8).toInt ≤ (σ_67 h0 8).toInt from (by omega)), (show 0 ≤ (8 : Int32).toInt → (σ_67 h0 8).toInt < (σ_67 h0 1).toInt from (fun h => by first | omega | (rw [k_101]; omega)))⟩⟩, (show TP D cA L T r σ_67 ρ_68 t.heap from by rw [ht]; exact hB.1)⟩, hS.F ht⟩) hS.2.2 dX12_wordHere_129
                · skip
                  have uc_66 := i_ne (n := 0) (by decide) c_66
                  refine lv_bipush (v := 7) hx hb dX12_wordHere_95 (by decide) ?_
                  have k_102 : σ_3 h0 1 = (σ h0 1) := (FR.at fσ_3 th0 (by decide)).trans rfl
                  have k_103 : σ_11 h0 1 = (σ h0 1) := (FR.at fσ_11 th0 (by decide)).trans k_102
                  have k_104 : σ_19 h0 1 = (σ h0 1) := (FR.at fσ_19 th0 (by decide)).trans k_103
                  have k_105 : σ_27 h0 1 = (σ h0 1) := (FR.at fσ_27 th0 (by decide)).trans k_104
                  have k_106 : σ_35 h0 1 = (σ h0 1) := (FR.at fσ_35 th0 (by decide)).trans k_105
                  have k_107 : σ_43 h0 1 = (σ h0 1) := (FR.at fσ_43 th0 (by decide)).trans k_106
                  have k_108 : σ_51 h0 1 = (σ h0 1) := (FR.at fσ_51 th0 (by decide)).trans k_107
                  have k_109 : σ_59 h0 1 = (σ h0 1) := (FR.at fσ_59 th0 (by decide)).trans k_108
                  exact W.iret (v := 7) hx hb hr (fun t ht hW => ⟨⟨7, (σ_59, ρ_60), rfl, ⟨hB.2.1, hB.2.2, ⟨(show (-1) ≤ (7 : Int32).toInt ∧ (7 : Int32).toInt ≤ 9 from ⟨by decide, by decide⟩), (show (σ h0 8).toInt ≤ (σ_59 h0 8).toInt from (by omega)), (show 0 ≤ (7 : Int32).toInt → (σ_59 h0 8).toInt < (σ_59 h0 1).toInt from (fun h => by first | omega | (rw [k_109]; omega)))⟩⟩, (show TP D cA L T r σ_59 ρ_60 t.heap from by rw [ht]; exact hB.1)⟩, hS.F ht⟩) hS.2.2 dX12_wordHere_97
              · skip
                have uc_58 := i_ne (n := 0) (by decide) c_58
                refine lv_bipush (v := 6) hx hb dX12_wordHere_82 (by decide) ?_
                have k_110 : σ_3 h0 1 = (σ h0 1) := (FR.at fσ_3 th0 (by decide)).trans rfl
                have k_111 : σ_11 h0 1 = (σ h0 1) := (FR.at fσ_11 th0 (by decide)).trans k_110
                have k_112 : σ_19 h0 1 = (σ h0 1) := (FR.at fσ_19 th0 (by decide)).trans k_111
                have k_113 : σ_27 h0 1 = (σ h0 1) := (FR.at fσ_27 th0 (by decide)).trans k_112
                have k_114 : σ_35 h0 1 = (σ h0 1) := (FR.at fσ_35 th0 (by decide)).trans k_113
                have k_115 : σ_43 h0 1 = (σ h0 1) := (FR.at fσ_43 th0 (by decide)).trans k_114
                have k_116 : σ_51 h0 1 = (σ h0 1) := (FR.at fσ_51 th0 (by decide)).trans k_115
                exact W.iret (v := 6) hx hb hr (fun t ht hW => ⟨⟨6, (σ_51, ρ_52), rfl, ⟨hB.2.1, hB.2.2, ⟨(show (-1) ≤ (6 : Int32).toInt ∧ (6 : Int32).toInt ≤ 9 from ⟨by decide, by decide⟩), (show (σ h0 8).toInt ≤ (σ_51 h0 8).toInt from (by omega)), (show 0 ≤ (6 : Int32).toInt → (σ_51 h0 8).toInt < (σ_51 h0 1).toInt from (fun h => by first | omega | (rw [k_116]; omega)))⟩⟩, (show TP D cA L T r σ_51 ρ_52 t.heap from by rw [ht]; exact hB.1)⟩, hS.F ht⟩) hS.2.2 dX12_wordHere_84
            · skip
              have uc_50 := i_ne (n := 0) (by decide) c_50
              refine lv_iconst (v := 5) hx hb dX12_wordHere_70 (by decide) ?_
              have k_117 : σ_3 h0 1 = (σ h0 1) := (FR.at fσ_3 th0 (by decide)).trans rfl
              have k_118 : σ_11 h0 1 = (σ h0 1) := (FR.at fσ_11 th0 (by decide)).trans k_117
              have k_119 : σ_19 h0 1 = (σ h0 1) := (FR.at fσ_19 th0 (by decide)).trans k_118
              have k_120 : σ_27 h0 1 = (σ h0 1) := (FR.at fσ_27 th0 (by decide)).trans k_119
              have k_121 : σ_35 h0 1 = (σ h0 1) := (FR.at fσ_35 th0 (by decide)).trans k_120
              have k_122 : σ_43 h0 1 = (σ h0 1) := (FR.at fσ_43 th0 (by decide)).trans k_121
              exact W.iret (v := 5) hx hb hr (fun t ht hW => ⟨⟨5, (σ_43, ρ_44), rfl, ⟨hB.2.1, hB.2.2, ⟨(show (-1) ≤ (5 : Int32).toInt ∧ (5 : Int32).toInt ≤ 9 from ⟨by decide, by decide⟩), (show (σ h0 8).toInt ≤ (σ_43 h0 8).toInt from (by omega)), (show 0 ≤ (5 : Int32).toInt → (σ_43 h0 8).toInt < (σ_43 h0 1).toInt from (fun h => by first | omega | (rw [k_122]; omega)))⟩⟩, (show TP D cA L T r σ_43 ρ_44 t.heap from by rw [ht]; exact hB.1)⟩, hS.F ht⟩) hS.2.2 dX12_wordHere_71
          · skip
            have uc_42 := i_ne (n := 0) (by decide) c_42
            refine lv_iconst (v := 4) hx hb dX12_wordHere_58 (by decide) ?_
            have k_123 : σ_3 h0 1 = (σ h0 1) := (FR.at fσ_3 th0 (by decide)).trans rfl
            have k_124 : σ_11 h0 1 = (σ h0 1) := (FR.at fσ_11 th0 (by decide)).trans k_123
            have k_125 : σ_19 h0 1 = (σ h0 1) := (FR.at fσ_19 th0 (by decide)).trans k_124
            have k_126 : σ_27 h0 1 = (σ h0 1) := (FR.at fσ_27 th0 (by decide)).trans k_125
            have k_127 : σ_35 h0 1 = (σ h0 1) := (FR.at fσ_35 th0 (by decide)).trans k_126
            exact W.iret (v := 4) hx hb hr (fun t ht hW => ⟨⟨4, (σ_35, ρ_36), rfl, ⟨hB.2.1, hB.2.2, ⟨(show (-1) ≤ (4 : Int32).toInt ∧ (4 : Int32).toInt ≤ 9 from ⟨by decide, by decide⟩), (show (σ h0 8).toInt ≤ (σ_35 h0 8).toInt from (by omega)), (show 0 ≤ (4 : Int32).toInt → (σ_35 h0 8).toInt < (σ_35 h0 1).toInt from (fun h => by first | omega | (rw [k_127]; omega)))⟩⟩, (show TP D cA L T r σ_35 ρ_36 t.heap from by rw [ht]; exact hB.1)⟩, hS.F ht⟩) hS.2.2 dX12_wordHere_59
        · skip
          have uc_34 := i_ne (n := 0) (by decide) c_34
          refine lv_iconst (v := 3) hx hb dX12_wordHere_46 (by decide) ?_
          have k_128 : σ_3 h0 1 = (σ h0 1) := (FR.at fσ_3 th0 (by decide)).trans rfl
          have k_129 : σ_11 h0 1 = (σ h0 1) := (FR.at fσ_11 th0 (by decide)).trans k_128
          have k_130 : σ_19 h0 1 = (σ h0 1) := (FR.at fσ_19 th0 (by decide)).trans k_129
          have k_131 : σ_27 h0 1 = (σ h0 1) := (FR.at fσ_27 th0 (by decide)).trans k_130
          exact W.iret (v := 3) hx hb hr (fun t ht hW => ⟨⟨3, (σ_27, ρ_28), rfl, ⟨hB.2.1, hB.2.2, ⟨(show (-1) ≤ (3 : Int32).toInt ∧ (3 : Int32).toInt ≤ 9 from ⟨by decide, by decide⟩), (show (σ h0 8).toInt ≤ (σ_27 h0 8).toInt from (by omega)), (show 0 ≤ (3 : Int32).toInt → (σ_27 h0 8).toInt < (σ_27 h0 1).toInt from (fun h => by first | omega | (rw [k_131]; omega)))⟩⟩, (show TP D cA L T r σ_27 ρ_28 t.heap from by rw [ht]; exact hB.1)⟩, hS.F ht⟩) hS.2.2 dX12_wordHere_47
      · skip
        have uc_26 := i_ne (n := 0) (by decide) c_26
        refine lv_iconst (v := 2) hx hb dX12_wordHere_34 (by decide) ?_
        have k_132 : σ_3 h0 1 = (σ h0 1) := (FR.at fσ_3 th0 (by decide)).trans rfl
        have k_133 : σ_11 h0 1 = (σ h0 1) := (FR.at fσ_11 th0 (by decide)).trans k_132
        have k_134 : σ_19 h0 1 = (σ h0 1) := (FR.at fσ_19 th0 (by decide)).trans k_133
        exact W.iret (v := 2) hx hb hr (fun t ht hW => ⟨⟨2, (σ_19, ρ_20), rfl, ⟨hB.2.1, hB.2.2, ⟨(show (-1) ≤ (2 : Int32).toInt ∧ (2 : Int32).toInt ≤ 9 from ⟨by decide, by decide⟩), (show (σ h0 8).toInt ≤ (σ_19 h0 8).toInt from (by omega)), (show 0 ≤ (2 : Int32).toInt → (σ_19 h0 8).toInt < (σ_19 h0 1).toInt from (fun h => by first | omega | (rw [k_134]; omega)))⟩⟩, (show TP D cA L T r σ_19 ρ_20 t.heap from by rw [ht]; exact hB.1)⟩, hS.F ht⟩) hS.2.2 dX12_wordHere_35
    · skip
      have uc_18 := i_ne (n := 0) (by decide) c_18
      refine lv_iconst (v := 1) hx hb dX12_wordHere_22 (by decide) ?_
      have k_135 : σ_3 h0 1 = (σ h0 1) := (FR.at fσ_3 th0 (by decide)).trans rfl
      have k_136 : σ_11 h0 1 = (σ h0 1) := (FR.at fσ_11 th0 (by decide)).trans k_135
      exact W.iret (v := 1) hx hb hr (fun t ht hW => ⟨⟨1, (σ_11, ρ_12), rfl, ⟨hB.2.1, hB.2.2, ⟨(show (-1) ≤ (1 : Int32).toInt ∧ (1 : Int32).toInt ≤ 9 from ⟨by decide, by decide⟩), (show (σ h0 8).toInt ≤ (σ_11 h0 8).toInt from (by omega)), (show 0 ≤ (1 : Int32).toInt → (σ_11 h0 8).toInt < (σ_11 h0 1).toInt from (fun h => by first | omega | (rw [k_136]; omega)))⟩⟩, (show TP D cA L T r σ_11 ρ_12 t.heap from by rw [ht]; exact hB.1)⟩, hS.F ht⟩) hS.2.2 dX12_wordHere_23
  · skip
    have uc_10 := i_ne (n := 0) (by decide) c_10
    refine lv_iconst (v := 0) hx hb dX12_wordHere_10 (by decide) ?_
    have k_137 : σ_3 h0 1 = (σ h0 1) := (FR.at fσ_3 th0 (by decide)).trans rfl
    exact W.iret (v := 0) hx hb hr (fun t ht hW => ⟨⟨0, (σ_3, ρ_4), rfl, ⟨hB.2.1, hB.2.2, ⟨(show (-1) ≤ (0 : Int32).toInt ∧ (0 : Int32).toInt ≤ 9 from ⟨by decide, by decide⟩), (show (σ h0 8).toInt ≤ (σ_3 h0 8).toInt from (by omega)), (show 0 ≤ (0 : Int32).toInt → (σ_3 h0 8).toInt < (σ_3 h0 1).toInt from (fun h => by first | omega | (rw [k_137]; omega)))⟩⟩, (show TP D cA L T r σ_3 ρ_4 t.heap from by rw [ht]; exact hB.1)⟩, hS.F ht⟩) hS.2.2 dX12_wordHere_11
theorem mw_6_142 : (.constantLong RX12 233 1751739500 : Cond) ∈ wsA := wsA_t (List.mem_append_right _ (List.mem_append_right _ (List.mem_append_right _ (List.mem_append_right _ (List.mem_append_right _ (List.mem_append_left _ (List.mem_of_getElem? (l := tables_1_6) (i := 142) rfl))))))) rfl
theorem mw_6_151 : (.constantLong RX12 238 1936683636 : Cond) ∈ wsA := wsA_t (List.mem_append_right _ (List.mem_append_right _ (List.mem_append_right _ (List.mem_append_right _ (List.mem_append_right _ (List.mem_append_left _ (List.mem_of_getElem? (l := tables_1_6) (i := 151) rfl))))))) rfl
theorem mw_6_153 : (.constantLong RX12 246 31641111704529261 : Cond) ∈ wsA := wsA_t (List.mem_append_right _ (List.mem_append_right _ (List.mem_append_right _ (List.mem_append_right _ (List.mem_append_right _ (List.mem_append_left _ (List.mem_of_getElem? (l := tables_1_6) (i := 153) rfl))))))) rfl
theorem mw_6_154 : (.constantLong RX12 251 6840691 : Cond) ∈ wsA := wsA_t (List.mem_append_right _ (List.mem_append_right _ (List.mem_append_right _ (List.mem_append_right _ (List.mem_append_right _ (List.mem_append_left _ (List.mem_of_getElem? (l := tables_1_6) (i := 154) rfl))))))) rfl
theorem dX12_isHillWord_0 : decode cX12_isHillWord 0 = .ok (.aload_n 0, 1) := by decide +kernel
theorem dX12_isHillWord_1 : decode cX12_isHillWord 1 = .ok (.ldc2_w 233, 3) := by decide +kernel
theorem dX12_isHillWord_4 : decode cX12_isHillWord 4 = .ok (.invokevirtual 113, 3) := by decide +kernel
theorem dX12_isHillWord_7 : decode cX12_isHillWord 7 = .ok (.ifCond .ne 23, 3) := by decide +kernel
theorem dX12_isHillWord_30 : decode cX12_isHillWord 30 = .ok (.iconst 1, 1) := by decide +kernel
theorem dX12_isHillWord_31 : decode cX12_isHillWord 31 = .ok (.goto 4, 3) := by decide +kernel
theorem dX12_isHillWord_35 : decode cX12_isHillWord 35 = .ok (.istore_n 1, 1) := by decide +kernel
theorem dX12_isHillWord_36 : decode cX12_isHillWord 36 = .ok (.iload_n 1, 1) := by decide +kernel
theorem dX12_isHillWord_37 : decode cX12_isHillWord 37 = .ok (.ifCond .ne 33, 3) := by decide +kernel
theorem dX12_isHillWord_70 : decode cX12_isHillWord 70 = .ok (.iconst 1, 1) := by decide +kernel
theorem dX12_isHillWord_71 : decode cX12_isHillWord 71 = .ok (.goto 4, 3) := by decide +kernel
theorem dX12_isHillWord_75 : decode cX12_isHillWord 75 = .ok (.ireturn, 1) := by decide +kernel
theorem dX12_isHillWord_10 : decode cX12_isHillWord 10 = .ok (.aload_n 0, 1) := by decide +kernel
theorem dX12_isHillWord_11 : decode cX12_isHillWord 11 = .ok (.ldc2_w 238, 3) := by decide +kernel
theorem dX12_isHillWord_14 : decode cX12_isHillWord 14 = .ok (.invokevirtual 113, 3) := by decide +kernel
theorem dX12_isHillWord_17 : decode cX12_isHillWord 17 = .ok (.ifCond .ne 13, 3) := by decide +kernel
theorem dX12_isHillWord_20 : decode cX12_isHillWord 20 = .ok (.aload_n 0, 1) := by decide +kernel
theorem dX12_isHillWord_21 : decode cX12_isHillWord 21 = .ok (.ldc2_w 134, 3) := by decide +kernel
theorem dX12_isHillWord_24 : decode cX12_isHillWord 24 = .ok (.invokevirtual 113, 3) := by decide +kernel
theorem dX12_isHillWord_27 : decode cX12_isHillWord 27 = .ok (.ifCond .eq 7, 3) := by decide +kernel
theorem dX12_isHillWord_34 : decode cX12_isHillWord 34 = .ok (.iconst 0, 1) := by decide +kernel
theorem dX12_isHillWord_40 : decode cX12_isHillWord 40 = .ok (.aload_n 0, 1) := by decide +kernel
theorem dX12_isHillWord_41 : decode cX12_isHillWord 41 = .ok (.ldc2_w 246, 3) := by decide +kernel
theorem dX12_isHillWord_44 : decode cX12_isHillWord 44 = .ok (.invokevirtual 113, 3) := by decide +kernel
theorem dX12_isHillWord_47 : decode cX12_isHillWord 47 = .ok (.ifCond .ne 23, 3) := by decide +kernel
theorem dX12_isHillWord_50 : decode cX12_isHillWord 50 = .ok (.aload_n 0, 1) := by decide +kernel
theorem dX12_isHillWord_51 : decode cX12_isHillWord 51 = .ok (.ldc2_w 251, 3) := by decide +kernel
theorem dX12_isHillWord_54 : decode cX12_isHillWord 54 = .ok (.invokevirtual 113, 3) := by decide +kernel
theorem dX12_isHillWord_57 : decode cX12_isHillWord 57 = .ok (.ifCond .ne 13, 3) := by decide +kernel
theorem dX12_isHillWord_60 : decode cX12_isHillWord 60 = .ok (.aload_n 0, 1) := by decide +kernel
theorem dX12_isHillWord_61 : decode cX12_isHillWord 61 = .ok (.ldc2_w 148, 3) := by decide +kernel
theorem dX12_isHillWord_64 : decode cX12_isHillWord 64 = .ok (.invokevirtual 113, 3) := by decide +kernel
theorem dX12_isHillWord_67 : decode cX12_isHillWord 67 = .ok (.ifCond .eq 7, 3) := by decide +kernel
theorem dX12_isHillWord_74 : decode cX12_isHillWord 74 = .ok (.iconst 0, 1) := by decide +kernel
set_option maxHeartbeats 4000000 in
set_option maxRecDepth 100000 in
theorem cy_X12_isHillWord (l : Launch) (D : va_G) (cA : Nat → ClassId) (L : List Nat) (T : Nat → Nat) (r : Rg) (hG : GR L T r) (hL : L.Nodup) (σ : Sg) (ρ : Lg) (hW : WT L ry T σ) (sz : Nat) (h0 : Nat) (mh0 : h0 ∈ L) (th0 : T h0 = 12) : Met l yX12_isHillWord (.code yX12_isHillWord cX12_isHillWord 2 (some .boolean) :: wsA) ({ frames := 2, cells := 0, slots := 0, locals := 46 }) (PR D cA L T r σ ρ sz [.ref h0]) (QI D cA L T r ry [(12, 8)] σ sz (fun x σ1 => (0 ≤ x.toInt ∧ x.toInt ≤ 1) ∧ ((σ h0 8).toInt ≤ (σ1 h0 8).toInt))) 0 0 (dm L sz) := by
  refine Met.ofW (cc := cX12_isHillWord) (maxL := 2) (ret := (some .boolean)) (by decide) rfl ?_
  intro p e s m args below meth c s₁ B hml hv
  obtain ⟨rfl, hsz, hP, hK, hN⟩ := hv
  have hx := B.exec
  have hb := B.bytes
  have hr := B.returns
  have hts : ∀ w ∈ wsA, w.before _ s = true := fun w h => atoms_spec (ws := .code yX12_isHillWord cX12_isHillWord 2 (some .boolean) :: wsA) B.pre w (List.mem_cons_of_mem _ h)
  have hown : s.vm.findClass RX12 = some m.cls := findClass_of_methodNamed B.named
  subst hsz
  have hLA : LA (dm L s.heap.size) L := ⟨hL, fun a h => Or.inl h⟩
  have hA : ∀ q : Nat, s.heap.size ≤ q → dm L s.heap.size q := fun q h => Or.inr h
  have hS : va_S (dm L s.heap.size) s.heap s.heap [] := va_S.rf
  have hB : TS D cA L T r ry [(12, 8)] σ σ ρ s.heap := ⟨hP, hW, FR.rf⟩
  have hl := lv_entry ([.ref h0]) (n := 2) (Nat.le_of_ble_eq_true rfl)
  rw [lg_entry_eq]
  generalize (lg_sl ([.ref h0]) ++ List.replicate (2 - (lg_sl ([.ref h0])).length) Slot.unset).toArray = ls at hl ⊢
  have hl : lv_has ls 2 [(0, .ref h0)] := hl
  have w_1 : 0 ≤ (σ h0 8).toInt ∧ (σ h0 8).toInt ≤ 400 := by have z := hB.2.1 h0 mh0 8; rw [th0] at z; exact z
  have w_2 : 0 ≤ (σ h0 1).toInt ∧ (σ h0 1).toInt ≤ 400 := by have z := hB.2.1 h0 mh0 1; rw [th0] at z; exact z
  refine lv_aload_n hx hb dX12_isHillWord_0 rfl (lv_at hl 0 rfl) ?_
  refine lv_ldc2 (v := 1751739500) hx hb hown (hts _ mw_6_142) dX12_isHillWord_1 ?_
  refine t_ci (va_runV (As := [.long 1751739500]) (rest := []) ⟨hx, hb, hml, hown, hts⟩ (cy_X12_isWord l D cA L T r hG hLA.1 σ ρ hB.2.1 _ h0 mh0 th0 1751739500) (cV hts mv_X12_isWord mw_6_143 rfl rfl ⟨Nat.le_of_ble_eq_true rfl, Nat.le_of_ble_eq_true rfl⟩) (pV hB.1 hK hN mh0 th0 (show shp cA 12 _ _ _ = .inr (12, Fs12 _ _ _) from rfl) rfl) rfl rfl hl.1 rfl (lv_room (Nat.le_of_ble_eq_true rfl)) dX12_isHillWord_4 ⟨Nat.le_of_ble_eq_true rfl, Nat.le_of_ble_eq_true rfl⟩) hLA hA hB hS (by decide) (fun x_5 σ_3 ρ_4 H locs hB fσ_3 pσ_3 hS => ?_)
  obtain ⟨g_6, g_7, g_8⟩ := pσ_3
  have w_9 : 0 ≤ (σ_3 h0 8).toInt ∧ (σ_3 h0 8).toInt ≤ 400 := by have z := hB.2.1 h0 mh0 8; rw [th0] at z; exact z
  obtain ⟨lx_5, ux_5⟩ := g_6
  refine lv_if_ne (tgt := 30) hx hb dX12_isHillWord_7 (by decide) (fun c_10 => ?_) (fun c_10 => ?_)
  · skip
    have uc_10 := i_ne (n := 0) (by decide) c_10
    refine lv_iconst (v := 1) hx hb dX12_isHillWord_30 (by decide) ?_
    refine lv_goto (tgt := 35) hx hb dX12_isHillWord_31 (by decide) ?_
    refine lv_istore_n (lv' := [(1, .int 1), (0, .ref h0)]) hx hb dX12_isHillWord_35 rfl hl (by decide) rfl (fun ls hl => ?_)
    refine lv_iload_n hx hb dX12_isHillWord_36 rfl (lv_at hl 0 rfl) ?_
    refine lv_if_ne (tgt := 70) hx hb dX12_isHillWord_37 (by decide) (fun _ => ?_) (fun c9 => absurd c9 (by decide))
    refine lv_iconst (v := 1) hx hb dX12_isHillWord_70 (by decide) ?_
    refine lv_goto (tgt := 75) hx hb dX12_isHillWord_71 (by decide) ?_
    exact W.zret (v := 1) hx hb hr rfl (fun t ht hW => ⟨⟨1, (σ_3, ρ_4), rfl, ⟨hB.2.1, hB.2.2, ⟨(show 0 ≤ (1 : Int32).toInt ∧ (1 : Int32).toInt ≤ 1 from ⟨by decide, by decide⟩), (show (σ h0 8).toInt ≤ (σ_3 h0 8).toInt from (by omega))⟩⟩, (show TP D cA L T r σ_3 ρ_4 t.heap from by rw [ht]; exact hB.1)⟩, hS.F ht⟩) hS.2.2 dX12_isHillWord_75
  · skip
    have uc_10 := i_eq (n := 0) (by decide) c_10
    refine lv_aload_n hx hb dX12_isHillWord_10 rfl (lv_at hl 0 rfl) ?_
    refine lv_ldc2 (v := 1936683636) hx hb hown (hts _ mw_6_151) dX12_isHillWord_11 ?_
    refine t_ci (va_runV (As := [.long 1936683636]) (rest := []) ⟨hx, hb, hml, hown, hts⟩ (cy_X12_isWord l D cA L T r hG hLA.1 σ_3 ρ_4 hB.2.1 _ h0 mh0 th0 1936683636) (cV hts mv_X12_isWord mw_6_143 rfl rfl ⟨Nat.le_of_ble_eq_true rfl, Nat.le_of_ble_eq_true rfl⟩) (pV hB.1 hK hN mh0 th0 (show shp cA 12 _ _ _ = .inr (12, Fs12 _ _ _) from rfl) rfl) rfl rfl hl.1 rfl (lv_room (Nat.le_of_ble_eq_true rfl)) dX12_isHillWord_14 ⟨Nat.le_of_ble_eq_true rfl, Nat.le_of_ble_eq_true rfl⟩) hLA hA hB hS (by decide) (fun x_13 σ_11 ρ_12 H locs hB fσ_11 pσ_11 hS => ?_)
    obtain ⟨g_14, g_15, g_16⟩ := pσ_11
    have w_17 : 0 ≤ (σ_11 h0 8).toInt ∧ (σ_11 h0 8).toInt ≤ 400 := by have z := hB.2.1 h0 mh0 8; rw [th0] at z; exact z
    obtain ⟨lx_13, ux_13⟩ := g_14
    refine lv_if_ne (tgt := 30) hx hb dX12_isHillWord_17 (by decide) (fun c_18 => ?_) (fun c_18 => ?_)
    · skip
      have uc_18 := i_ne (n := 0) (by decide) c_18
      refine lv_iconst (v := 1) hx hb dX12_isHillWord_30 (by decide) ?_
      refine lv_goto (tgt := 35) hx hb dX12_isHillWord_31 (by decide) ?_
      refine lv_istore_n (lv' := [(1, .int 1), (0, .ref h0)]) hx hb dX12_isHillWord_35 rfl hl (by decide) rfl (fun ls hl => ?_)
      refine lv_iload_n hx hb dX12_isHillWord_36 rfl (lv_at hl 0 rfl) ?_
      refine lv_if_ne (tgt := 70) hx hb dX12_isHillWord_37 (by decide) (fun _ => ?_) (fun c9 => absurd c9 (by decide))
      refine lv_iconst (v := 1) hx hb dX12_isHillWord_70 (by decide) ?_
      refine lv_goto (tgt := 75) hx hb dX12_isHillWord_71 (by decide) ?_
      exact W.zret (v := 1) hx hb hr rfl (fun t ht hW => ⟨⟨1, (σ_11, ρ_12), rfl, ⟨hB.2.1, hB.2.2, ⟨(show 0 ≤ (1 : Int32).toInt ∧ (1 : Int32).toInt ≤ 1 from ⟨by decide, by decide⟩), (show (σ h0 8).toInt ≤ (σ_11 h0 8).toInt from (by omega))⟩⟩, (show TP D cA L T r σ_11 ρ_12 t.heap from by rw [ht]; exact hB.1)⟩, hS.F ht⟩) hS.2.2 dX12_isHillWord_75
    · skip
      have uc_18 := i_eq (n := 0) (by decide) c_18
      refine lv_aload_n hx hb dX12_isHillWord_20 rfl (lv_at hl 0 rfl) ?_
      refine lv_ldc2 (v := 1650814564) hx hb hown (hts _ mw_6_152) dX12_isHillWord_21 ?_
      refine t_ci (va_runV (As := [.long 1650814564]) (rest := []) ⟨hx, hb, hml, hown, hts⟩ (cy_X12_isWord l D cA L T r hG hLA.1 σ_11 ρ_12 hB.2.1 _ h0 mh0 th0 1650814564) (cV hts mv_X12_isWord mw_6_143 rfl rfl ⟨Nat.le_of_ble_eq_true rfl, Nat.le_of_ble_eq_true rfl⟩) (pV hB.1 hK hN mh0 th0 (show shp cA 12 _ _ _ = .inr (12, Fs12 _ _ _) from rfl) rfl) rfl rfl hl.1 rfl (lv_room (Nat.le_of_ble_eq_true rfl)) dX12_isHillWord_24 ⟨Nat.le_of_ble_eq_true rfl, Nat.le_of_ble_eq_true rfl⟩) hLA hA hB hS (by decide) (fun x_21 σ_19 ρ_20 H locs hB fσ_19 pσ_19 hS => ?_)
      obtain ⟨g_22, g_23, g_24⟩ := pσ_19
      have w_25 : 0 ≤ (σ_19 h0 8).toInt ∧ (σ_19 h0 8).toInt ≤ 400 := by have z := hB.2.1 h0 mh0 8; rw [th0] at z; exact z
      obtain ⟨lx_21, ux_21⟩ := g_22
      refine lv_if_eq (tgt := 34) hx hb dX12_isHillWord_27 (by decide) (fun c_26 => ?_) (fun c_26 => ?_)
      · skip
        have uc_26 := i_eq (n := 0) (by decide) c_26
        refine lv_iconst (v := 0) hx hb dX12_isHillWord_34 (by decide) ?_
        refine lv_istore_n (lv' := [(1, .int 0), (0, .ref h0)]) hx hb dX12_isHillWord_35 rfl hl (by decide) rfl (fun ls hl => ?_)
        refine lv_iload_n hx hb dX12_isHillWord_36 rfl (lv_at hl 0 rfl) ?_
        refine lv_if_ne (tgt := 70) hx hb dX12_isHillWord_37 (by decide) (fun c9 => absurd (by decide) c9) (fun _ => ?_)
        refine lv_aload_n hx hb dX12_isHillWord_40 rfl (lv_at hl 1 rfl) ?_
        refine lv_ldc2 (v := 31641111704529261) hx hb hown (hts _ mw_6_153) dX12_isHillWord_41 ?_
        refine t_ci (va_runV (As := [.long 31641111704529261]) (rest := []) ⟨hx, hb, hml, hown, hts⟩ (cy_X12_isWord l D cA L T r hG hLA.1 σ_19 ρ_20 hB.2.1 _ h0 mh0 th0 31641111704529261) (cV hts mv_X12_isWord mw_6_143 rfl rfl ⟨Nat.le_of_ble_eq_true rfl, Nat.le_of_ble_eq_true rfl⟩) (pV hB.1 hK hN mh0 th0 (show shp cA 12 _ _ _ = .inr (12, Fs12 _ _ _) from rfl) rfl) rfl rfl hl.1 rfl (lv_room (Nat.le_of_ble_eq_true rfl)) dX12_isHillWord_44 ⟨Nat.le_of_ble_eq_true rfl, Nat.le_of_ble_eq_true rfl⟩) hLA hA hB hS (by decide) (fun x_29 σ_27 ρ_28 H locs hB fσ_27 pσ_27 hS => ?_)
        obtain ⟨g_30, g_31, g_32⟩ := pσ_27
        have w_33 : 0 ≤ (σ_27 h0 8).toInt ∧ (σ_27 h0 8).toInt ≤ 400 := by have z := hB.2.1 h0 mh0 8; rw [th0] at z; exact z
        obtain ⟨lx_29, ux_29⟩ := g_30
        refine lv_if_ne (tgt := 70) hx hb dX12_isHillWord_47 (by decide) (fun c_34 => ?_) (fun c_34 => ?_)
        · skip
          have uc_34 := i_ne (n := 0) (by decide) c_34
          refine lv_iconst (v := 1) hx hb dX12_isHillWord_70 (by decide) ?_
          refine lv_goto (tgt := 75) hx hb dX12_isHillWord_71 (by decide) ?_
          exact W.zret (v := 1) hx hb hr rfl (fun t ht hW => ⟨⟨1, (σ_27, ρ_28), rfl, ⟨hB.2.1, hB.2.2, ⟨(show 0 ≤ (1 : Int32).toInt ∧ (1 : Int32).toInt ≤ 1 from ⟨by decide, by decide⟩), (show (σ h0 8).toInt ≤ (σ_27 h0 8).toInt from (by omega))⟩⟩, (show TP D cA L T r σ_27 ρ_28 t.heap from by rw [ht]; exact hB.1)⟩, hS.F ht⟩) hS.2.2 dX12_isHillWord_75
        · skip
          have uc_34 := i_eq (n := 0) (by decide) c_34
          refine lv_aload_n hx hb dX12_isHillWord_50 rfl (lv_at hl 1 rfl) ?_
          refine lv_ldc2 (v := 6840691) hx hb hown (hts _ mw_6_154) dX12_isHillWord_51 ?_
          refine t_ci (va_runV (As := [.long 6840691]) (rest := []) ⟨hx, hb, hml, hown, hts⟩ (cy_X12_isWord l D cA L T r hG hLA.1 σ_27 ρ_28 hB.2.1 _ h0 mh0 th0 6840691) (cV hts mv_X12_isWord mw_6_143 rfl rfl ⟨Nat.le_of_ble_eq_true rfl, Nat.le_of_ble_eq_true rfl⟩) (pV hB.1 hK hN mh0 th0 (show shp cA 12 _ _ _ = .inr (12, Fs12 _ _ _) from rfl) rfl) rfl rfl hl.1 rfl (lv_room (Nat.le_of_ble_eq_true rfl)) dX12_isHillWord_54 ⟨Nat.le_of_ble_eq_true rfl, Nat.le_of_ble_eq_true rfl⟩) hLA hA hB hS (by decide) (fun x_37 σ_35 ρ_36 H locs hB fσ_35 pσ_35 hS => ?_)
          obtain ⟨g_38, g_39, g_40⟩ := pσ_35
          have w_41 : 0 ≤ (σ_35 h0 8).toInt ∧ (σ_35 h0 8).toInt ≤ 400 := by have z := hB.2.1 h0 mh0 8; rw [th0] at z; exact z
          obtain ⟨lx_37, ux_37⟩ := g_38
          refine lv_if_ne (tgt := 70) hx hb dX12_isHillWord_57 (by decide) (fun c_42 => ?_) (fun c_42 => ?_)
          · skip
            have uc_42 := i_ne (n := 0) (by decide) c_42
            refine lv_iconst (v := 1) hx hb dX12_isHillWord_70 (by decide) ?_
            refine lv_goto (tgt := 75) hx hb dX12_isHillWord_71 (by decide) ?_
            exact W.zret (v := 1) hx hb hr rfl (fun t ht hW => ⟨⟨1, (σ_35, ρ_36), rfl, ⟨hB.2.1, hB.2.2, ⟨(show 0 ≤ (1 : Int32).toInt ∧ (1 : Int32).toInt ≤ 1 from ⟨by decide, by decide⟩), (show (σ h0 8).toInt ≤ (σ_35 h0 8).toInt from (by omega))⟩⟩, (show TP D cA L T r σ_35 ρ_36 t.heap from by rw [ht]; exact hB.1)⟩, hS.F ht⟩) hS.2.2 dX12_isHillWord_75
          · skip
            have uc_42 := i_eq (n := 0) (by decide) c_42
            refine lv_aload_n hx hb dX12_isHillWord_60 rfl (lv_at hl 1 rfl) ?_
            refine lv_ldc2 (v := 1751474544) hx hb hown (hts _ mw_6_155) dX12_isHillWord_61 ?_
            refine t_ci (va_runV (As := [.long 1751474544]) (rest := []) ⟨hx, hb, hml, hown, hts⟩ (cy_X12_isWord l D cA L T r hG hLA.1 σ_35 ρ_36 hB.2.1 _ h0 mh0 th0 1751474544) (cV hts mv_X12_isWord mw_6_143 rfl rfl ⟨Nat.le_of_ble_eq_true rfl, Nat.le_of_ble_eq_true rfl⟩) (pV hB.1 hK hN mh0 th0 (show shp cA 12 _ _ _ = .inr (12, Fs12 _ _ _) from rfl) rfl) rfl rfl hl.1 rfl (lv_room (Nat.le_of_ble_eq_true rfl)) dX12_isHillWord_64 ⟨Nat.le_of_ble_eq_true rfl, Nat.le_of_ble_eq_true rfl⟩) hLA hA hB hS (by decide) (fun x_45 σ_43 ρ_44 H locs hB fσ_43 pσ_43 hS => ?_)
            obtain ⟨g_46, g_47, g_48⟩ := pσ_43
            have w_49 : 0 ≤ (σ_43 h0 8).toInt ∧ (σ_43 h0 8).toInt ≤ 400 := by have z := hB.2.1 h0 mh0 8; rw [th0] at z; exact z
            obtain ⟨lx_45, ux_45⟩ := g_46
            refine lv_if_eq (tgt := 74) hx hb dX12_isHillWord_67 (by decide) (fun c_50 => ?_) (fun c_50 => ?_)
            · skip
              have uc_50 := i_eq (n := 0) (by decide) c_50
              refine lv_iconst (v := 0) hx hb dX12_isHillWord_74 (by decide) ?_
              exact W.zret (v := 0) hx hb hr rfl (fun t ht hW => ⟨⟨0, (σ_43, ρ_44), rfl, ⟨hB.2.1, hB.2.2, ⟨(show 0 ≤ (0 : Int32).toInt ∧ (0 : Int32).toInt ≤ 1 from ⟨by decide, by decide⟩), (show (σ h0 8).toInt ≤ (σ_43 h0 8).toInt from (by omega))⟩⟩, (show TP D cA L T r σ_43 ρ_44 t.heap from by rw [ht]; exact hB.1)⟩, hS.F ht⟩) hS.2.2 dX12_isHillWord_75
            · skip
              have uc_50 := i_ne (n := 0) (by decide) c_50
              refine lv_iconst (v := 1) hx hb dX12_isHillWord_70 (by decide) ?_
              refine lv_goto (tgt := 75) hx hb dX12_isHillWord_71 (by decide) ?_
              exact W.zret (v := 1) hx hb hr rfl (fun t ht hW => ⟨⟨1, (σ_43, ρ_44), rfl, ⟨hB.2.1, hB.2.2, ⟨(show 0 ≤ (1 : Int32).toInt ∧ (1 : Int32).toInt ≤ 1 from ⟨by decide, by decide⟩), (show (σ h0 8).toInt ≤ (σ_43 h0 8).toInt from (by omega))⟩⟩, (show TP D cA L T r σ_43 ρ_44 t.heap from by rw [ht]; exact hB.1)⟩, hS.F ht⟩) hS.2.2 dX12_isHillWord_75
      · skip
        have uc_26 := i_ne (n := 0) (by decide) c_26
        refine lv_iconst (v := 1) hx hb dX12_isHillWord_30 (by decide) ?_
        refine lv_goto (tgt := 35) hx hb dX12_isHillWord_31 (by decide) ?_
        refine lv_istore_n (lv' := [(1, .int 1), (0, .ref h0)]) hx hb dX12_isHillWord_35 rfl hl (by decide) rfl (fun ls hl => ?_)
        refine lv_iload_n hx hb dX12_isHillWord_36 rfl (lv_at hl 0 rfl) ?_
        refine lv_if_ne (tgt := 70) hx hb dX12_isHillWord_37 (by decide) (fun _ => ?_) (fun c9 => absurd c9 (by decide))
        refine lv_iconst (v := 1) hx hb dX12_isHillWord_70 (by decide) ?_
        refine lv_goto (tgt := 75) hx hb dX12_isHillWord_71 (by decide) ?_
        exact W.zret (v := 1) hx hb hr rfl (fun t ht hW => ⟨⟨1, (σ_19, ρ_20), rfl, ⟨hB.2.1, hB.2.2, ⟨(show 0 ≤ (1 : Int32).toInt ∧ (1 : Int32).toInt ≤ 1 from ⟨by decide, by decide⟩), (show (σ h0 8).toInt ≤ (σ_19 h0 8).toInt from (by omega))⟩⟩, (show TP D cA L T r σ_19 ρ_20 t.heap from by rw [ht]; exact hB.1)⟩, hS.F ht⟩) hS.2.2 dX12_isHillWord_75
