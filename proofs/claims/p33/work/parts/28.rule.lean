theorem mw_2_187 : (.fieldLink RX7 33 "HillBends$Rule" "size" "I" : Cond) ∈ wsA := wsA_t (List.mem_append_right _ (List.mem_append_left _ (List.mem_of_getElem? (l := tables_1_2) (i := 187) rfl))) rfl
theorem dX7_emit_0 : decode cX7_emit 0 = .ok (.aload_n 0, 1) := by decide +kernel
theorem dX7_emit_1 : decode cX7_emit 1 = .ok (.getfield 33, 3) := by decide +kernel
theorem dX7_emit_4 : decode cX7_emit 4 = .ok (.aload_n 0, 1) := by decide +kernel
theorem dX7_emit_5 : decode cX7_emit 5 = .ok (.getfield 11, 3) := by decide +kernel
theorem dX7_emit_8 : decode cX7_emit 8 = .ok (.arraylength, 1) := by decide +kernel
theorem dX7_emit_9 : decode cX7_emit 9 = .ok (.if_icmp .ge 23, 3) := by decide +kernel
theorem dX7_emit_32 : decode cX7_emit 32 = .ok (.return_, 1) := by decide +kernel
theorem dX7_emit_12 : decode cX7_emit 12 = .ok (.aload_n 0, 1) := by decide +kernel
theorem dX7_emit_13 : decode cX7_emit 13 = .ok (.getfield 11, 3) := by decide +kernel
theorem dX7_emit_16 : decode cX7_emit 16 = .ok (.aload_n 0, 1) := by decide +kernel
theorem dX7_emit_17 : decode cX7_emit 17 = .ok (.getfield 33, 3) := by decide +kernel
theorem dX7_emit_20 : decode cX7_emit 20 = .ok (.iload_n 1, 1) := by decide +kernel
theorem dX7_emit_21 : decode cX7_emit 21 = .ok (.iastore, 1) := by decide +kernel
theorem dX7_emit_22 : decode cX7_emit 22 = .ok (.aload_n 0, 1) := by decide +kernel
theorem dX7_emit_23 : decode cX7_emit 23 = .ok (.dup, 1) := by decide +kernel
theorem dX7_emit_24 : decode cX7_emit 24 = .ok (.getfield 33, 3) := by decide +kernel
theorem dX7_emit_27 : decode cX7_emit 27 = .ok (.iconst 1, 1) := by decide +kernel
theorem dX7_emit_28 : decode cX7_emit 28 = .ok (.iadd, 1) := by decide +kernel
theorem dX7_emit_29 : decode cX7_emit 29 = .ok (.putfield 33, 3) := by decide +kernel
set_option maxHeartbeats 4000000 in
set_option maxRecDepth 100000 in
theorem cy_X7_emit (l : Launch) (D : va_G) (cA : Nat → ClassId) (L : List Nat) (T : Nat → Nat) (r : Rg) (hG : GR L T r) (hL : L.Nodup) (σ : Sg) (ρ : Lg) (hW : WT L ry T σ) (sz : Nat) (h0 : Nat) (mh0 : h0 ∈ L) (th0 : T h0 = 7) (p1 : Int32) (w0 : 0 ≤ p1.toInt) (w1 : p1.toInt ≤ 200000) : Met l yX7_emit (.code yX7_emit cX7_emit 2 none :: wsA) ({ frames := 0, cells := 0, slots := 0, locals := 0 }) (PR D cA L T r σ ρ sz [.ref h0, .int p1]) (QV D cA L T r ry [(7, 5), (41, 1000)] σ sz (fun σ1 => True)) 0 0 (dm L sz) := by
  refine Met.ofW (cc := cX7_emit) (maxL := 2) (ret := none) (by decide) rfl ?_
  intro p e s m args below meth c s₁ B hml hv
  obtain ⟨rfl, hsz, hP, hK, hN⟩ := hv
  have hx := B.exec
  have hb := B.bytes
  have hr := B.returns
  have hts : ∀ w ∈ wsA, w.before _ s = true := fun w h => atoms_spec (ws := .code yX7_emit cX7_emit 2 none :: wsA) B.pre w (List.mem_cons_of_mem _ h)
  have hown : s.vm.findClass RX7 = some m.cls := findClass_of_methodNamed B.named
  subst hsz
  have hLA : LA (dm L s.heap.size) L := ⟨hL, fun a h => Or.inl h⟩
  have hA : ∀ q : Nat, s.heap.size ≤ q → dm L s.heap.size q := fun q h => Or.inr h
  have hS : va_S (dm L s.heap.size) s.heap s.heap [] := va_S.rf
  have hB : TS D cA L T r ry [(7, 5), (41, 1000)] σ σ ρ s.heap := ⟨hP, hW, FR.rf⟩
  have hl := lv_entry ([.ref h0, .int p1]) (n := 2) (Nat.le_of_ble_eq_true rfl)
  rw [lg_entry_eq]
  generalize (lg_sl ([.ref h0, .int p1]) ++ List.replicate (2 - (lg_sl ([.ref h0, .int p1])).length) Slot.unset).toArray = ls at hl ⊢
  have hl : lv_has ls 2 [(0, .ref h0), (1, .int p1)] := hl
  refine lv_aload_n hx hb dX7_emit_0 rfl (lv_at hl 0 rfl) ?_
  refine t_gi hx hb hts hown hK hB mh0 th0 fi_7_5 rfl mw_2_187 dX7_emit_1 (fun x_1 ex_1 lx_1 ux_1 => ?_)
  refine lv_aload_n hx hb dX7_emit_4 rfl (lv_at hl 0 rfl) ?_
  refine t_gr hx hb hts hown hK hG hB mh0 th0 fq_7_0 rfl mw_2_182 dX7_emit_5 (fun b_2 hb_2 mb_2 tb_2 => ?_)
  refine t_len (n := 401) (v := 401) hx hb hK hB mb_2 tb_2 ((ai_41) _ _ _ _) rfl (show (tyA cA)[1]? = some (cA 1, _) from rfl) (by decide) dX7_emit_8 ?_
  refine lv_icmp_ge (tgt := 32) hx hb dX7_emit_9 (by decide) (fun c_3 => ?_) (fun c_3 => ?_)
  · skip
    have uc_3 := i_ge (n := 401) (by decide) c_3
    exact W.vret hx hb hr (fun t ht hW => ⟨⟨(σ, ρ), rfl, ⟨hB.2.1, hB.2.2, trivial⟩, (show TP D cA L T r σ ρ t.heap from by rw [ht]; exact hB.1)⟩, hS.F ht⟩) hS.2.2 dX7_emit_32
  · skip
    have uc_3 := i_nge (n := 401) (by decide) c_3
    refine lv_aload_n hx hb dX7_emit_12 rfl (lv_at hl 0 rfl) ?_
    refine t_gk hx hb hts hown hK hB mh0 th0 fq_7_0 hb_2 mw_2_182 dX7_emit_13 ?_
    refine lv_aload_n hx hb dX7_emit_16 rfl (lv_at hl 0 rfl) ?_
    refine t_gv hx hb hts hown hK hB mh0 th0 fi_7_5 ex_1.symm mw_2_187 dX7_emit_17 ?_
    refine lv_iload_n hx hb dX7_emit_20 rfl (lv_at hl 1 rfl) ?_
    refine t_si hx hb hK hLA hB hS mb_2 tb_2 ai_41 (i_in (by omega) (by omega)) (by show 0 ≤ _; omega) (by show _ ≤ 200000; omega) (Or.inr (by decide)) dX7_emit_21 (fun H locs σ_4 eσ_4 hB hS => ?_)
    have k_5 : σ_4 b_2 x_1.toNatClampNeg = p1 := by rw [eσ_4]; exact up2_same _ _ _ _
    refine lv_aload_n hx hb dX7_emit_22 rfl (lv_at hl 0 rfl) ?_
    refine lv_dup hx hb dX7_emit_23 rfl ?_
    have k_6 : σ_4 h0 5 = x_1 := by rw [eσ_4, up2_nea _ _ (tg_ne th0 tb_2 (by decide))]; exact ex_1.symm
    refine t_gv hx hb hts hown hK hB mh0 th0 fi_7_5 k_6 mw_2_187 dX7_emit_24 ?_
    refine lv_iconst (v := 1) hx hb dX7_emit_27 (by decide) ?_
    refine lv_iadd hx hb dX7_emit_28 ?_
    refine lv_topi (fun x_7 ex_7 => ?_)
    have vx_7 := b_add (rfl : x_1.toInt = _) (by decide : (1 : Int32).toInt = 1) ex_7 (by omega) (by omega)
    refine t_pi hx hb hts hown hK hLA hB hS mh0 th0 fi_7_5 rfl rfl rfl (by omega) (by omega) (Or.inl (by decide)) mw_2_187 dX7_emit_29 (fun H locs σ_8 eσ_8 hB hS => ?_)
    have k_9 : σ_8 h0 5 = x_7 := by rw [eσ_8]; exact up2_same _ _ _ _
    exact W.vret hx hb hr (fun t ht hW => ⟨⟨(σ_8, ρ), rfl, ⟨hB.2.1, hB.2.2, trivial⟩, (show TP D cA L T r σ_8 ρ t.heap from by rw [ht]; exact hB.1)⟩, hS.F ht⟩) hS.2.2 dX7_emit_32
theorem dX7_wordOfBend_0 : decode cX7_wordOfBend 0 = .ok (.iload_n 0, 1) := by decide +kernel
theorem dX7_wordOfBend_1 : decode cX7_wordOfBend 1 = .ok (.iconst 2, 1) := by decide +kernel
theorem dX7_wordOfBend_2 : decode cX7_wordOfBend 2 = .ok (.if_icmp .ne 5, 3) := by decide +kernel
theorem dX7_wordOfBend_7 : decode cX7_wordOfBend 7 = .ok (.iload_n 0, 1) := by decide +kernel
theorem dX7_wordOfBend_8 : decode cX7_wordOfBend 8 = .ok (.iconst 5, 1) := by decide +kernel
theorem dX7_wordOfBend_9 : decode cX7_wordOfBend 9 = .ok (.if_icmp .ne 6, 3) := by decide +kernel
theorem dX7_wordOfBend_15 : decode cX7_wordOfBend 15 = .ok (.iload_n 0, 1) := by decide +kernel
theorem dX7_wordOfBend_16 : decode cX7_wordOfBend 16 = .ok (.bipush 11, 2) := by decide +kernel
theorem dX7_wordOfBend_18 : decode cX7_wordOfBend 18 = .ok (.if_icmp .lt 12, 3) := by decide +kernel
theorem dX7_wordOfBend_30 : decode cX7_wordOfBend 30 = .ok (.iconst (-1), 1) := by decide +kernel
theorem dX7_wordOfBend_31 : decode cX7_wordOfBend 31 = .ok (.ireturn, 1) := by decide +kernel
theorem dX7_wordOfBend_21 : decode cX7_wordOfBend 21 = .ok (.iload_n 0, 1) := by decide +kernel
theorem dX7_wordOfBend_22 : decode cX7_wordOfBend 22 = .ok (.bipush 11, 2) := by decide +kernel
theorem dX7_wordOfBend_24 : decode cX7_wordOfBend 24 = .ok (.isub, 1) := by decide +kernel
theorem dX7_wordOfBend_25 : decode cX7_wordOfBend 25 = .ok (.iconst 1, 1) := by decide +kernel
theorem dX7_wordOfBend_26 : decode cX7_wordOfBend 26 = .ok (.iadd, 1) := by decide +kernel
theorem dX7_wordOfBend_27 : decode cX7_wordOfBend 27 = .ok (.goto 4, 3) := by decide +kernel
theorem dX7_wordOfBend_12 : decode cX7_wordOfBend 12 = .ok (.bipush 9, 2) := by decide +kernel
theorem dX7_wordOfBend_14 : decode cX7_wordOfBend 14 = .ok (.ireturn, 1) := by decide +kernel
theorem dX7_wordOfBend_5 : decode cX7_wordOfBend 5 = .ok (.iconst 0, 1) := by decide +kernel
theorem dX7_wordOfBend_6 : decode cX7_wordOfBend 6 = .ok (.ireturn, 1) := by decide +kernel
set_option maxHeartbeats 4000000 in
set_option maxRecDepth 100000 in
theorem cy_X7_wordOfBend (l : Launch) (D : va_G) (cA : Nat → ClassId) (L : List Nat) (T : Nat → Nat) (r : Rg) (hG : GR L T r) (hL : L.Nodup) (σ : Sg) (ρ : Lg) (hW : WT L ry T σ) (sz : Nat) (p1 : Int32) (w0 : -1 ≤ p1.toInt) (w1 : p1.toInt ≤ 99999) : Met l yX7_wordOfBend (.code yX7_wordOfBend cX7_wordOfBend 1 (some .int) :: wsA) ({ frames := 0, cells := 0, slots := 0, locals := 0 }) (PR D cA L T r σ ρ sz [.int p1]) (QI D cA L T r ry ([] : List (Nat × Nat)) σ sz (fun x σ1 => ((-1) ≤ x.toInt ∧ x.toInt ≤ 100000))) 0 0 (dm L sz) := by
  refine Met.ofW (cc := cX7_wordOfBend) (maxL := 1) (ret := (some .int)) (by decide) rfl ?_
  intro p e s m args below meth c s₁ B hml hv
  obtain ⟨rfl, hsz, hP, hK, hN⟩ := hv
  have hx := B.exec
  have hb := B.bytes
  have hr := B.returns
  have hts : ∀ w ∈ wsA, w.before _ s = true := fun w h => atoms_spec (ws := .code yX7_wordOfBend cX7_wordOfBend 1 (some .int) :: wsA) B.pre w (List.mem_cons_of_mem _ h)
  have hown : s.vm.findClass RX7 = some m.cls := findClass_of_methodNamed B.named
  subst hsz
  have hLA : LA (dm L s.heap.size) L := ⟨hL, fun a h => Or.inl h⟩
  have hA : ∀ q : Nat, s.heap.size ≤ q → dm L s.heap.size q := fun q h => Or.inr h
  have hS : va_S (dm L s.heap.size) s.heap s.heap [] := va_S.rf
  have hB : TS D cA L T r ry ([] : List (Nat × Nat)) σ σ ρ s.heap := ⟨hP, hW, FR.rf⟩
  have hl := lv_entry ([.int p1]) (n := 1) (Nat.le_of_ble_eq_true rfl)
  rw [lg_entry_eq]
  generalize (lg_sl ([.int p1]) ++ List.replicate (1 - (lg_sl ([.int p1])).length) Slot.unset).toArray = ls at hl ⊢
  have hl : lv_has ls 1 [(0, .int p1)] := hl
  refine lv_iload_n hx hb dX7_wordOfBend_0 rfl (lv_at hl 0 rfl) ?_
  refine lv_iconst (v := 2) hx hb dX7_wordOfBend_1 (by decide) ?_
  refine lv_icmp_ne (tgt := 7) hx hb dX7_wordOfBend_2 (by decide) (fun c_1 => ?_) (fun c_1 => ?_)
  · skip
    have uc_1 := i_ne (n := 2) (by decide) c_1
    refine lv_iload_n hx hb dX7_wordOfBend_7 rfl (lv_at hl 0 rfl) ?_
    refine lv_iconst (v := 5) hx hb dX7_wordOfBend_8 (by decide) ?_
    refine lv_icmp_ne (tgt := 15) hx hb dX7_wordOfBend_9 (by decide) (fun c_2 => ?_) (fun c_2 => ?_)
    · skip
      have uc_2 := i_ne (n := 5) (by decide) c_2
      refine lv_iload_n hx hb dX7_wordOfBend_15 rfl (lv_at hl 0 rfl) ?_
      refine lv_bipush (v := 11) hx hb dX7_wordOfBend_16 (by decide) ?_
      refine lv_icmp_lt (tgt := 30) hx hb dX7_wordOfBend_18 (by decide) (fun c_3 => ?_) (fun c_3 => ?_)
      · skip
        have uc_3 := i_lt (n := 11) (by decide) c_3
        refine lv_iconst (v := (-1)) hx hb dX7_wordOfBend_30 (by decide) ?_
        exact W.iret (v := (-1)) hx hb hr (fun t ht hW => ⟨⟨(-1), (σ, ρ), rfl, ⟨hB.2.1, hB.2.2, (show (-1) ≤ ((-1) : Int32).toInt ∧ ((-1) : Int32).toInt ≤ 100000 from ⟨by decide, by decide⟩)⟩, (show TP D cA L T r σ ρ t.heap from by rw [ht]; exact hB.1)⟩, hS.F ht⟩) hS.2.2 dX7_wordOfBend_31
      · skip
        have uc_3 := i_nlt (n := 11) (by decide) c_3
        refine lv_iload_n hx hb dX7_wordOfBend_21 rfl (lv_at hl 0 rfl) ?_
        refine lv_bipush (v := 11) hx hb dX7_wordOfBend_22 (by decide) ?_
        refine lv_isub hx hb dX7_wordOfBend_24 ?_
        refine lv_topi (fun x_4 ex_4 => ?_)
        have vx_4 := b_sub (rfl : p1.toInt = _) (by decide : (11 : Int32).toInt = 11) ex_4 (by omega) (by omega)
        refine lv_iconst (v := 1) hx hb dX7_wordOfBend_25 (by decide) ?_
        refine lv_iadd hx hb dX7_wordOfBend_26 ?_
        refine lv_topi (fun x_5 ex_5 => ?_)
        have vx_5 := b_add (rfl : x_4.toInt = _) (by decide : (1 : Int32).toInt = 1) ex_5 (by omega) (by omega)
        refine lv_goto (tgt := 31) hx hb dX7_wordOfBend_27 (by decide) ?_
        exact W.iret (v := x_5) hx hb hr (fun t ht hW => ⟨⟨x_5, (σ, ρ), rfl, ⟨hB.2.1, hB.2.2, (show (-1) ≤ (x_5 : Int32).toInt ∧ (x_5 : Int32).toInt ≤ 100000 from ⟨by omega, by omega⟩)⟩, (show TP D cA L T r σ ρ t.heap from by rw [ht]; exact hB.1)⟩, hS.F ht⟩) hS.2.2 dX7_wordOfBend_31
    · skip
      have uc_2 := i_eq (n := 5) (by decide) c_2
      refine lv_bipush (v := 9) hx hb dX7_wordOfBend_12 (by decide) ?_
      exact W.iret (v := 9) hx hb hr (fun t ht hW => ⟨⟨9, (σ, ρ), rfl, ⟨hB.2.1, hB.2.2, (show (-1) ≤ (9 : Int32).toInt ∧ (9 : Int32).toInt ≤ 100000 from ⟨by decide, by decide⟩)⟩, (show TP D cA L T r σ ρ t.heap from by rw [ht]; exact hB.1)⟩, hS.F ht⟩) hS.2.2 dX7_wordOfBend_14
  · skip
    have uc_1 := i_eq (n := 2) (by decide) c_1
    refine lv_iconst (v := 0) hx hb dX7_wordOfBend_5 (by decide) ?_
    exact W.iret (v := 0) hx hb hr (fun t ht hW => ⟨⟨0, (σ, ρ), rfl, ⟨hB.2.1, hB.2.2, (show (-1) ≤ (0 : Int32).toInt ∧ (0 : Int32).toInt ≤ 100000 from ⟨by decide, by decide⟩)⟩, (show TP D cA L T r σ ρ t.heap from by rw [ht]; exact hB.1)⟩, hS.F ht⟩) hS.2.2 dX7_wordOfBend_6
theorem mw_2_188 : (.fieldLink RX7 36 "HillBends$Rule" "at" "I" : Cond) ∈ wsA := wsA_t (List.mem_append_right _ (List.mem_append_left _ (List.mem_of_getElem? (l := tables_1_2) (i := 188) rfl))) rfl
theorem mw_4_29 : (.instanceMethod yX9_isWord : Cond) ∈ wsA := wsA_t (List.mem_append_right _ (List.mem_append_right _ (List.mem_append_right _ (List.mem_append_left _ (List.mem_of_getElem? (l := tables_1_4) (i := 29) rfl))))) rfl
theorem mw_4_30 : (.selects RX9 yX9_isWord yX9_isWord : Cond) ∈ wsA := wsA_t (List.mem_append_right _ (List.mem_append_right _ (List.mem_append_right _ (List.mem_append_left _ (List.mem_of_getElem? (l := tables_1_4) (i := 30) rfl))))) rfl
theorem mw_4_31 : (.code yX9_isWord cX9_isWord 3 (some .boolean) : Cond) ∈ wsA := wsA_t (List.mem_append_right _ (List.mem_append_right _ (List.mem_append_right _ (List.mem_append_left _ (List.mem_of_getElem? (l := tables_1_4) (i := 31) rfl))))) rfl
theorem mw_4_28 : (.methodLink RX7 49 yX9_isWord : Cond) ∈ wsA := wsA_t (List.mem_append_right _ (List.mem_append_right _ (List.mem_append_right _ (List.mem_append_left _ (List.mem_of_getElem? (l := tables_1_4) (i := 28) rfl))))) rfl
theorem mw_4_32 : (.methodLink RX7 64 yX9_wrong : Cond) ∈ wsA := wsA_t (List.mem_append_right _ (List.mem_append_right _ (List.mem_append_right _ (List.mem_append_left _ (List.mem_of_getElem? (l := tables_1_4) (i := 32) rfl))))) rfl
theorem dX7_beginsClause_0 : decode cX7_beginsClause 0 = .ok (.aload_n 1, 1) := by decide +kernel
theorem dX7_beginsClause_1 : decode cX7_beginsClause 1 = .ok (.aload_n 0, 1) := by decide +kernel
theorem dX7_beginsClause_2 : decode cX7_beginsClause 2 = .ok (.getfield 36, 3) := by decide +kernel
theorem dX7_beginsClause_5 : decode cX7_beginsClause 5 = .ok (.bipush 6, 2) := by decide +kernel
theorem dX7_beginsClause_7 : decode cX7_beginsClause 7 = .ok (.invokevirtual 49, 3) := by decide +kernel
theorem dX7_beginsClause_10 : decode cX7_beginsClause 10 = .ok (.ifCond .ne 13, 3) := by decide +kernel
theorem dX7_beginsClause_23 : decode cX7_beginsClause 23 = .ok (.aload_n 0, 1) := by decide +kernel
theorem dX7_beginsClause_24 : decode cX7_beginsClause 24 = .ok (.getfield 29, 3) := by decide +kernel
theorem dX7_beginsClause_27 : decode cX7_beginsClause 27 = .ok (.bipush 12, 2) := by decide +kernel
theorem dX7_beginsClause_29 : decode cX7_beginsClause 29 = .ok (.if_icmp .lt 13, 3) := by decide +kernel
theorem dX7_beginsClause_42 : decode cX7_beginsClause 42 = .ok (.aload_n 0, 1) := by decide +kernel
theorem dX7_beginsClause_43 : decode cX7_beginsClause 43 = .ok (.getfield 17, 3) := by decide +kernel
theorem dX7_beginsClause_46 : decode cX7_beginsClause 46 = .ok (.aload_n 0, 1) := by decide +kernel
theorem dX7_beginsClause_47 : decode cX7_beginsClause 47 = .ok (.getfield 29, 3) := by decide +kernel
theorem dX7_beginsClause_50 : decode cX7_beginsClause 50 = .ok (.aload_n 0, 1) := by decide +kernel
theorem dX7_beginsClause_51 : decode cX7_beginsClause 51 = .ok (.getfield 33, 3) := by decide +kernel
theorem dX7_beginsClause_54 : decode cX7_beginsClause 54 = .ok (.iastore, 1) := by decide +kernel
theorem dX7_beginsClause_55 : decode cX7_beginsClause 55 = .ok (.aload_n 0, 1) := by decide +kernel
theorem dX7_beginsClause_56 : decode cX7_beginsClause 56 = .ok (.dup, 1) := by decide +kernel
theorem dX7_beginsClause_57 : decode cX7_beginsClause 57 = .ok (.getfield 36, 3) := by decide +kernel
theorem dX7_beginsClause_60 : decode cX7_beginsClause 60 = .ok (.iconst 1, 1) := by decide +kernel
theorem dX7_beginsClause_61 : decode cX7_beginsClause 61 = .ok (.iadd, 1) := by decide +kernel
theorem dX7_beginsClause_62 : decode cX7_beginsClause 62 = .ok (.putfield 36, 3) := by decide +kernel
theorem dX7_beginsClause_65 : decode cX7_beginsClause 65 = .ok (.iconst 1, 1) := by decide +kernel
theorem dX7_beginsClause_66 : decode cX7_beginsClause 66 = .ok (.ireturn, 1) := by decide +kernel
theorem dX7_beginsClause_32 : decode cX7_beginsClause 32 = .ok (.aload_n 1, 1) := by decide +kernel
theorem dX7_beginsClause_33 : decode cX7_beginsClause 33 = .ok (.aload_n 0, 1) := by decide +kernel
theorem dX7_beginsClause_34 : decode cX7_beginsClause 34 = .ok (.getfield 36, 3) := by decide +kernel
theorem dX7_beginsClause_37 : decode cX7_beginsClause 37 = .ok (.iconst 4, 1) := by decide +kernel
theorem dX7_beginsClause_38 : decode cX7_beginsClause 38 = .ok (.invokevirtual 64, 3) := by decide +kernel
theorem dX7_beginsClause_41 : decode cX7_beginsClause 41 = .ok (.ireturn, 1) := by decide +kernel
theorem dX7_beginsClause_13 : decode cX7_beginsClause 13 = .ok (.aload_n 1, 1) := by decide +kernel
theorem dX7_beginsClause_14 : decode cX7_beginsClause 14 = .ok (.aload_n 0, 1) := by decide +kernel
theorem dX7_beginsClause_15 : decode cX7_beginsClause 15 = .ok (.getfield 36, 3) := by decide +kernel
theorem dX7_beginsClause_18 : decode cX7_beginsClause 18 = .ok (.iconst 0, 1) := by decide +kernel
theorem dX7_beginsClause_19 : decode cX7_beginsClause 19 = .ok (.invokevirtual 64, 3) := by decide +kernel
theorem dX7_beginsClause_22 : decode cX7_beginsClause 22 = .ok (.ireturn, 1) := by decide +kernel
theorem mv_X9_isWord : MV RX9 yX9_isWord cX9_isWord 3 (some .boolean) 2 := ⟨mw_4_29, mw_4_30, mw_1_2, mw_4_31, ⟨rfl, by decide, by decide, by decide +kernel⟩⟩
set_option maxHeartbeats 4000000 in
set_option maxRecDepth 100000 in
theorem cy_X7_beginsClause (l : Launch) (D : va_G) (cA : Nat → ClassId) (L : List Nat) (T : Nat → Nat) (r : Rg) (hG : GR L T r) (hL : L.Nodup) (σ : Sg) (ρ : Lg) (hW : WT L ry T σ) (sz : Nat) (h0 : Nat) (mh0 : h0 ∈ L) (th0 : T h0 = 7) (h1 : Nat) (mh1 : h1 ∈ L) (th1 : T h1 = 9) : Met l yX7_beginsClause (.code yX7_beginsClause cX7_beginsClause 2 (some .boolean) :: wsA) ({ frames := 1, cells := 0, slots := 0, locals := 23 }) (PR D cA L T r σ ρ sz [.ref h0, .ref h1]) (QI D cA L T r ry [(7, 6), (9, 6), (42, 1000)] σ sz (fun x σ1 => (0 ≤ x.toInt ∧ x.toInt ≤ 1) ∧ (x.toInt = 1 → (σ1 h0 4).toInt ≤ 11))) 0 0 (dm L sz) := by
  refine Met.ofW (cc := cX7_beginsClause) (maxL := 2) (ret := (some .boolean)) (by decide) rfl ?_
  intro p e s m args below meth c s₁ B hml hv
  obtain ⟨rfl, hsz, hP, hK, hN⟩ := hv
  have hx := B.exec
  have hb := B.bytes
  have hr := B.returns
  have hts : ∀ w ∈ wsA, w.before _ s = true := fun w h => atoms_spec (ws := .code yX7_beginsClause cX7_beginsClause 2 (some .boolean) :: wsA) B.pre w (List.mem_cons_of_mem _ h)
  have hown : s.vm.findClass RX7 = some m.cls := findClass_of_methodNamed B.named
  subst hsz
  have hLA : LA (dm L s.heap.size) L := ⟨hL, fun a h => Or.inl h⟩
  have hA : ∀ q : Nat, s.heap.size ≤ q → dm L s.heap.size q := fun q h => Or.inr h
  have hS : va_S (dm L s.heap.size) s.heap s.heap [] := va_S.rf
  have hB : TS D cA L T r ry [(7, 6), (9, 6), (42, 1000)] σ σ ρ s.heap := ⟨hP, hW, FR.rf⟩
  have hl := lv_entry ([.ref h0, .ref h1]) (n := 2) (Nat.le_of_ble_eq_true rfl)
  rw [lg_entry_eq]
  generalize (lg_sl ([.ref h0, .ref h1]) ++ List.replicate (2 - (lg_sl ([.ref h0, .ref h1])).length) Slot.unset).toArray = ls at hl ⊢
  have hl : lv_has ls 2 [(0, .ref h0), (1, .ref h1)] := hl
  refine lv_aload_n hx hb dX7_beginsClause_0 rfl (lv_at hl 1 rfl) ?_
  refine lv_aload_n hx hb dX7_beginsClause_1 rfl (lv_at hl 0 rfl) ?_
  refine t_gi hx hb hts hown hK hB mh0 th0 fi_7_6 rfl mw_2_188 dX7_beginsClause_2 (fun x_1 ex_1 lx_1 ux_1 => ?_)
  have cx_1 := congrArg Int32.toInt ex_1
  refine lv_bipush (v := 6) hx hb dX7_beginsClause_5 (by decide) ?_
  refine t_ci (va_runV (As := [.int x_1, .int 6]) (rest := []) ⟨hx, hb, hml, hown, hts⟩ (cy_X9_isWord l D cA L T r hG hLA.1 σ ρ hB.2.1 _ h1 mh1 th1 x_1 6) (cV hts mv_X9_isWord mw_4_28 rfl rfl ⟨Nat.le_of_ble_eq_true rfl, Nat.le_of_ble_eq_true rfl⟩) (pV hB.1 hK hN mh1 th1 (show shp cA 9 _ _ _ = .inr (9, Fs9 _ _ _) from rfl) rfl) rfl rfl hl.1 rfl (lv_room (Nat.le_of_ble_eq_true rfl)) dX7_beginsClause_7 ⟨Nat.le_of_ble_eq_true rfl, Nat.le_of_ble_eq_true rfl⟩) hLA hA hB hS (by decide) (fun x_4 σ_2 ρ_3 H locs hB fσ_2 pσ_2 hS => ?_)
  have qσ_2 := FR.nil fσ_2
  subst qσ_2
  obtain ⟨lx_4, ux_4⟩ := pσ_2
  refine lv_if_ne (tgt := 23) hx hb dX7_beginsClause_10 (by decide) (fun c_5 => ?_) (fun c_5 => ?_)
  · skip
    have uc_5 := i_ne (n := 0) (by decide) c_5
    refine lv_aload_n hx hb dX7_beginsClause_23 rfl (lv_at hl 0 rfl) ?_
    refine t_gi hx hb hts hown hK hB mh0 th0 fi_7_4 rfl mw_2_186 dX7_beginsClause_24 (fun x_6 ex_6 lx_6 ux_6 => ?_)
    have cx_6 := congrArg Int32.toInt ex_6
    refine lv_bipush (v := 12) hx hb dX7_beginsClause_27 (by decide) ?_
    refine lv_icmp_lt (tgt := 42) hx hb dX7_beginsClause_29 (by decide) (fun c_7 => ?_) (fun c_7 => ?_)
    · skip
      have uc_7 := i_lt (n := 12) (by decide) c_7
      refine lv_aload_n hx hb dX7_beginsClause_42 rfl (lv_at hl 0 rfl) ?_
      refine t_gr hx hb hts hown hK hG hB mh0 th0 fq_7_1 rfl mw_2_183 dX7_beginsClause_43 (fun b_8 hb_8 mb_8 tb_8 => ?_)
      refine lv_aload_n hx hb dX7_beginsClause_46 rfl (lv_at hl 0 rfl) ?_
      refine t_gv hx hb hts hown hK hB mh0 th0 fi_7_4 ex_6.symm mw_2_186 dX7_beginsClause_47 ?_
      refine lv_aload_n hx hb dX7_beginsClause_50 rfl (lv_at hl 0 rfl) ?_
      refine t_gi hx hb hts hown hK hB mh0 th0 fi_7_5 rfl mw_2_187 dX7_beginsClause_51 (fun x_9 ex_9 lx_9 ux_9 => ?_)
      have cx_9 := congrArg Int32.toInt ex_9
      refine t_si hx hb hK hLA hB hS mb_8 tb_8 ai_42 (i_in (by omega) (by omega)) (by show 0 ≤ _; (first | omega | (subst_vars; omega))) (by show _ ≤ 401; (first | omega | (subst_vars; omega))) (Or.inr (by decide)) dX7_beginsClause_54 (fun H locs σ_10 eσ_10 hB hS => ?_)
      have k_11 : σ_10 b_8 x_6.toNatClampNeg = x_9 := by rw [eσ_10]; exact up2_same _ _ _ _
      refine lv_aload_n hx hb dX7_beginsClause_55 rfl (lv_at hl 0 rfl) ?_
      refine lv_dup hx hb dX7_beginsClause_56 rfl ?_
      have k_12 : σ_10 h0 6 = x_1 := by rw [eσ_10, up2_nea _ _ (tg_ne th0 tb_8 (by decide))]; exact ex_1.symm
      refine t_gv hx hb hts hown hK hB mh0 th0 fi_7_6 k_12 mw_2_188 dX7_beginsClause_57 ?_
      refine lv_iconst (v := 1) hx hb dX7_beginsClause_60 (by decide) ?_
      refine lv_iadd hx hb dX7_beginsClause_61 ?_
      refine lv_topi (fun x_13 ex_13 => ?_)
      try have vx_13 := b_add (rfl : x_1.toInt = _) (by decide : (1 : Int32).toInt = 1) ex_13 (by omega) (by omega)
      refine t_pi hx hb hts hown hK hLA hB hS mh0 th0 fi_7_6 rfl rfl rfl (i_lo _) (i_hi _) (Or.inl (by decide)) mw_2_188 dX7_beginsClause_62 (fun H locs σ_14 eσ_14 hB hS => ?_)
      have k_15 : σ_14 h0 6 = x_13 := by rw [eσ_14]; exact up2_same _ _ _ _
      refine lv_iconst (v := 1) hx hb dX7_beginsClause_65 (by decide) ?_
      have k_16 : σ_10 h0 4 = x_6 := by rw [eσ_10, up2_nea _ _ (tg_ne th0 tb_8 (by decide))]; exact ex_6.symm
      have k_17 : σ_14 h0 4 = x_6 := by rw [eσ_14, up2_nej _ _ (by decide)]; exact k_16
      exact W.zret (v := 1) hx hb hr rfl (fun t ht hW => ⟨⟨1, (σ_14, ρ_3), rfl, ⟨hB.2.1, hB.2.2, ⟨(show 0 ≤ (1 : Int32).toInt ∧ (1 : Int32).toInt ≤ 1 from ⟨by decide, by decide⟩), (show (1 : Int32).toInt = 1 → (σ_14 h0 4).toInt ≤ 11 from (fun h => (by rw [k_17]; omega)))⟩⟩, (show TP D cA L T r σ_14 ρ_3 t.heap from by rw [ht]; exact hB.1)⟩, hS.F ht⟩) hS.2.2 dX7_beginsClause_66
    · skip
      have uc_7 := i_nlt (n := 12) (by decide) c_7
      refine lv_aload_n hx hb dX7_beginsClause_32 rfl (lv_at hl 1 rfl) ?_
      refine lv_aload_n hx hb dX7_beginsClause_33 rfl (lv_at hl 0 rfl) ?_
      refine t_gv hx hb hts hown hK hB mh0 th0 fi_7_6 ex_1.symm mw_2_188 dX7_beginsClause_34 ?_
      refine lv_iconst (v := 4) hx hb dX7_beginsClause_37 (by decide) ?_
      refine t_ci (va_runV (As := [.int x_1, .int 4]) (rest := []) ⟨hx, hb, hml, hown, hts⟩ (cy_X9_wrong l D cA L T r hG hLA.1 σ ρ_3 hB.2.1 _ h1 mh1 th1 x_1 4 (by first | omega | decide) (by first | omega | decide)) (cV hts mv_X9_wrong mw_4_32 rfl rfl ⟨Nat.le_of_ble_eq_true rfl, Nat.le_of_ble_eq_true rfl⟩) (pV hB.1 hK hN mh1 th1 (show shp cA 9 _ _ _ = .inr (9, Fs9 _ _ _) from rfl) rfl) rfl rfl hl.1 rfl (lv_room (Nat.le_of_ble_eq_true rfl)) dX7_beginsClause_38 ⟨Nat.le_of_ble_eq_true rfl, Nat.le_of_ble_eq_true rfl⟩) hLA hA hB hS (by decide) (fun x_20 σ_18 ρ_19 H locs hB fσ_18 pσ_18 hS => ?_)
      obtain ⟨g_21, g_22⟩ := pσ_18
      subst g_21
      exact W.zret (v := 0) hx hb hr rfl (fun t ht hW => ⟨⟨0, (σ_18, ρ_19), rfl, ⟨hB.2.1, hB.2.2, ⟨(show 0 ≤ (0 : Int32).toInt ∧ (0 : Int32).toInt ≤ 1 from ⟨by decide, by decide⟩), (show (0 : Int32).toInt = 1 → (σ_18 h0 4).toInt ≤ 11 from (fun h => absurd h (by decide)))⟩⟩, (show TP D cA L T r σ_18 ρ_19 t.heap from by rw [ht]; exact hB.1)⟩, hS.F ht⟩) hS.2.2 dX7_beginsClause_41
  · skip
    have uc_5 := i_eq (n := 0) (by decide) c_5
    refine lv_aload_n hx hb dX7_beginsClause_13 rfl (lv_at hl 1 rfl) ?_
    refine lv_aload_n hx hb dX7_beginsClause_14 rfl (lv_at hl 0 rfl) ?_
    refine t_gv hx hb hts hown hK hB mh0 th0 fi_7_6 ex_1.symm mw_2_188 dX7_beginsClause_15 ?_
    refine lv_iconst (v := 0) hx hb dX7_beginsClause_18 (by decide) ?_
    refine t_ci (va_runV (As := [.int x_1, .int 0]) (rest := []) ⟨hx, hb, hml, hown, hts⟩ (cy_X9_wrong l D cA L T r hG hLA.1 σ ρ_3 hB.2.1 _ h1 mh1 th1 x_1 0 (by first | omega | decide) (by first | omega | decide)) (cV hts mv_X9_wrong mw_4_32 rfl rfl ⟨Nat.le_of_ble_eq_true rfl, Nat.le_of_ble_eq_true rfl⟩) (pV hB.1 hK hN mh1 th1 (show shp cA 9 _ _ _ = .inr (9, Fs9 _ _ _) from rfl) rfl) rfl rfl hl.1 rfl (lv_room (Nat.le_of_ble_eq_true rfl)) dX7_beginsClause_19 ⟨Nat.le_of_ble_eq_true rfl, Nat.le_of_ble_eq_true rfl⟩) hLA hA hB hS (by decide) (fun x_25 σ_23 ρ_24 H locs hB fσ_23 pσ_23 hS => ?_)
    obtain ⟨g_26, g_27⟩ := pσ_23
    subst g_26
    exact W.zret (v := 0) hx hb hr rfl (fun t ht hW => ⟨⟨0, (σ_23, ρ_24), rfl, ⟨hB.2.1, hB.2.2, ⟨(show 0 ≤ (0 : Int32).toInt ∧ (0 : Int32).toInt ≤ 1 from ⟨by decide, by decide⟩), (show (0 : Int32).toInt = 1 → (σ_23 h0 4).toInt ≤ 11 from (fun h => absurd h (by decide)))⟩⟩, (show TP D cA L T r σ_23 ρ_24 t.heap from by rw [ht]; exact hB.1)⟩, hS.F ht⟩) hS.2.2 dX7_beginsClause_22
theorem mw_4_41 : (.methodLink RX7 60 yX9_kindAt : Cond) ∈ wsA := wsA_t (List.mem_append_right _ (List.mem_append_right _ (List.mem_append_right _ (List.mem_append_left _ (List.mem_of_getElem? (l := tables_1_4) (i := 41) rfl))))) rfl
theorem mw_4_42 : (.methodLink RX7 80 yX9_valueAt : Cond) ∈ wsA := wsA_t (List.mem_append_right _ (List.mem_append_right _ (List.mem_append_right _ (List.mem_append_left _ (List.mem_of_getElem? (l := tables_1_4) (i := 42) rfl))))) rfl
theorem mw_4_44 : (.static yX7_wordOfBend : Cond) ∈ wsA := wsA_t (List.mem_append_right _ (List.mem_append_right _ (List.mem_append_right _ (List.mem_append_left _ (List.mem_of_getElem? (l := tables_1_4) (i := 44) rfl))))) rfl
theorem mw_4_45 : (.code yX7_wordOfBend cX7_wordOfBend 1 (some .int) : Cond) ∈ wsA := wsA_t (List.mem_append_right _ (List.mem_append_right _ (List.mem_append_right _ (List.mem_append_left _ (List.mem_of_getElem? (l := tables_1_4) (i := 45) rfl))))) rfl
theorem mw_4_43 : (.methodLink RX7 83 yX7_wordOfBend : Cond) ∈ wsA := wsA_t (List.mem_append_right _ (List.mem_append_right _ (List.mem_append_right _ (List.mem_append_left _ (List.mem_of_getElem? (l := tables_1_4) (i := 43) rfl))))) rfl
theorem mw_2_189 : (.fieldLink RX7 39 "HillBends$Rule" "used" "I" : Cond) ∈ wsA := wsA_t (List.mem_append_right _ (List.mem_append_left _ (List.mem_of_getElem? (l := tables_1_2) (i := 189) rfl))) rfl
theorem mw_4_48 : (.instanceMethod yX7_emit : Cond) ∈ wsA := wsA_t (List.mem_append_right _ (List.mem_append_right _ (List.mem_append_right _ (List.mem_append_left _ (List.mem_of_getElem? (l := tables_1_4) (i := 48) rfl))))) rfl
theorem mp_2_2 : (.selects RX7 yX7_emit yX7_emit : Cond) ∈ wsA := wsA_p (q := (yX7_emit, 8)) (List.mem_append_right _ (List.mem_append_left _ (List.mem_of_getElem? (l := lw_privs_2) (i := 2) rfl)))
theorem mw_4_49 : (.code yX7_emit cX7_emit 2 none : Cond) ∈ wsA := wsA_t (List.mem_append_right _ (List.mem_append_right _ (List.mem_append_right _ (List.mem_append_left _ (List.mem_of_getElem? (l := tables_1_4) (i := 49) rfl))))) rfl
theorem mw_4_46 : (.methodLink RX7 70 yX7_emit : Cond) ∈ wsA := wsA_t (List.mem_append_right _ (List.mem_append_right _ (List.mem_append_right _ (List.mem_append_left _ (List.mem_of_getElem? (l := tables_1_4) (i := 46) rfl))))) rfl
theorem dX7_value_0 : decode cX7_value 0 = .ok (.aload_n 1, 1) := by decide +kernel
theorem dX7_value_1 : decode cX7_value 1 = .ok (.aload_n 0, 1) := by decide +kernel
theorem dX7_value_2 : decode cX7_value 2 = .ok (.getfield 36, 3) := by decide +kernel
theorem dX7_value_5 : decode cX7_value 5 = .ok (.invokevirtual 60, 3) := by decide +kernel
theorem dX7_value_8 : decode cX7_value 8 = .ok (.sipush 130, 3) := by decide +kernel
theorem dX7_value_11 : decode cX7_value 11 = .ok (.if_icmp .ne 7, 3) := by decide +kernel
theorem dX7_value_18 : decode cX7_value 18 = .ok (.iconst 0, 1) := by decide +kernel
theorem dX7_value_19 : decode cX7_value 19 = .ok (.istore_n 2, 1) := by decide +kernel
theorem dX7_value_20 : decode cX7_value 20 = .ok (.aload_n 1, 1) := by decide +kernel
theorem dX7_value_21 : decode cX7_value 21 = .ok (.aload_n 0, 1) := by decide +kernel
theorem dX7_value_22 : decode cX7_value 22 = .ok (.getfield 36, 3) := by decide +kernel
theorem dX7_value_25 : decode cX7_value 25 = .ok (.invokevirtual 60, 3) := by decide +kernel
theorem dX7_value_28 : decode cX7_value 28 = .ok (.sipush 131, 3) := by decide +kernel
theorem dX7_value_31 : decode cX7_value 31 = .ok (.if_icmp .ne 17, 3) := by decide +kernel
theorem dX7_value_48 : decode cX7_value 48 = .ok (.iconst (-1), 1) := by decide +kernel
theorem dX7_value_49 : decode cX7_value 49 = .ok (.istore_n 3, 1) := by decide +kernel
theorem dX7_value_50 : decode cX7_value 50 = .ok (.iload_n 2, 1) := by decide +kernel
theorem dX7_value_51 : decode cX7_value 51 = .ok (.ifCond .ne 18, 3) := by decide +kernel
theorem dX7_value_54 : decode cX7_value 54 = .ok (.iload_n 3, 1) := by decide +kernel
theorem dX7_value_55 : decode cX7_value 55 = .ok (.iconst (-1), 1) := by decide +kernel
theorem dX7_value_56 : decode cX7_value 56 = .ok (.if_icmp .ne 13, 3) := by decide +kernel
theorem dX7_value_59 : decode cX7_value 59 = .ok (.aload_n 1, 1) := by decide +kernel
theorem dX7_value_60 : decode cX7_value 60 = .ok (.aload_n 0, 1) := by decide +kernel
theorem dX7_value_61 : decode cX7_value 61 = .ok (.getfield 36, 3) := by decide +kernel
theorem dX7_value_64 : decode cX7_value 64 = .ok (.iconst 0, 1) := by decide +kernel
theorem dX7_value_65 : decode cX7_value 65 = .ok (.invokevirtual 64, 3) := by decide +kernel
theorem dX7_value_68 : decode cX7_value 68 = .ok (.ireturn, 1) := by decide +kernel
theorem dX7_value_34 : decode cX7_value 34 = .ok (.aload_n 1, 1) := by decide +kernel
theorem dX7_value_35 : decode cX7_value 35 = .ok (.aload_n 0, 1) := by decide +kernel
theorem dX7_value_36 : decode cX7_value 36 = .ok (.getfield 36, 3) := by decide +kernel
theorem dX7_value_39 : decode cX7_value 39 = .ok (.invokevirtual 80, 3) := by decide +kernel
theorem dX7_value_42 : decode cX7_value 42 = .ok (.invokestatic 83, 3) := by decide +kernel
theorem dX7_value_45 : decode cX7_value 45 = .ok (.goto 4, 3) := by decide +kernel
theorem dX7_value_69 : decode cX7_value 69 = .ok (.iload_n 2, 1) := by decide +kernel
theorem dX7_value_70 : decode cX7_value 70 = .ok (.ifCond .eq 25, 3) := by decide +kernel
theorem dX7_value_95 : decode cX7_value 95 = .ok (.aload_n 0, 1) := by decide +kernel
theorem dX7_value_96 : decode cX7_value 96 = .ok (.getfield 39, 3) := by decide +kernel
theorem dX7_value_99 : decode cX7_value 99 = .ok (.bipush 60, 2) := by decide +kernel
theorem dX7_value_101 : decode cX7_value 101 = .ok (.if_icmp .lt 13, 3) := by decide +kernel
theorem dX7_value_114 : decode cX7_value 114 = .ok (.aload_n 0, 1) := by decide +kernel
theorem dX7_value_115 : decode cX7_value 115 = .ok (.dup, 1) := by decide +kernel
theorem dX7_value_116 : decode cX7_value 116 = .ok (.getfield 39, 3) := by decide +kernel
theorem dX7_value_119 : decode cX7_value 119 = .ok (.iconst 1, 1) := by decide +kernel
theorem dX7_value_120 : decode cX7_value 120 = .ok (.iadd, 1) := by decide +kernel
theorem dX7_value_121 : decode cX7_value 121 = .ok (.putfield 39, 3) := by decide +kernel
theorem dX7_value_124 : decode cX7_value 124 = .ok (.aload_n 0, 1) := by decide +kernel
theorem dX7_value_125 : decode cX7_value 125 = .ok (.iload_n 2, 1) := by decide +kernel
theorem dX7_value_126 : decode cX7_value 126 = .ok (.ifCond .eq 18, 3) := by decide +kernel
theorem dX7_value_144 : decode cX7_value 144 = .ok (.iload_n 3, 1) := by decide +kernel
theorem dX7_value_145 : decode cX7_value 145 = .ok (.invokevirtual 70, 3) := by decide +kernel
theorem dX7_value_148 : decode cX7_value 148 = .ok (.aload_n 0, 1) := by decide +kernel
theorem dX7_value_149 : decode cX7_value 149 = .ok (.dup, 1) := by decide +kernel
theorem dX7_value_150 : decode cX7_value 150 = .ok (.getfield 36, 3) := by decide +kernel
theorem dX7_value_153 : decode cX7_value 153 = .ok (.iconst 1, 1) := by decide +kernel
theorem dX7_value_154 : decode cX7_value 154 = .ok (.iadd, 1) := by decide +kernel
theorem dX7_value_155 : decode cX7_value 155 = .ok (.putfield 36, 3) := by decide +kernel
theorem dX7_value_158 : decode cX7_value 158 = .ok (.iconst 1, 1) := by decide +kernel
theorem dX7_value_159 : decode cX7_value 159 = .ok (.ireturn, 1) := by decide +kernel
theorem dX7_value_104 : decode cX7_value 104 = .ok (.aload_n 1, 1) := by decide +kernel
theorem dX7_value_105 : decode cX7_value 105 = .ok (.aload_n 0, 1) := by decide +kernel
theorem dX7_value_106 : decode cX7_value 106 = .ok (.getfield 36, 3) := by decide +kernel
theorem dX7_value_109 : decode cX7_value 109 = .ok (.iconst 3, 1) := by decide +kernel
theorem dX7_value_110 : decode cX7_value 110 = .ok (.invokevirtual 64, 3) := by decide +kernel
theorem dX7_value_113 : decode cX7_value 113 = .ok (.ireturn, 1) := by decide +kernel
theorem dX7_value_14 : decode cX7_value 14 = .ok (.iconst 1, 1) := by decide +kernel
theorem dX7_value_15 : decode cX7_value 15 = .ok (.goto 4, 3) := by decide +kernel
theorem dX7_value_73 : decode cX7_value 73 = .ok (.aload_n 1, 1) := by decide +kernel
theorem dX7_value_74 : decode cX7_value 74 = .ok (.aload_n 0, 1) := by decide +kernel
theorem dX7_value_75 : decode cX7_value 75 = .ok (.getfield 36, 3) := by decide +kernel
theorem dX7_value_78 : decode cX7_value 78 = .ok (.invokevirtual 80, 3) := by decide +kernel
theorem dX7_value_81 : decode cX7_value 81 = .ok (.iconst (-1), 1) := by decide +kernel
theorem dX7_value_82 : decode cX7_value 82 = .ok (.if_icmp .ne 13, 3) := by decide +kernel
theorem dX7_value_129 : decode cX7_value 129 = .ok (.sipush 1000, 3) := by decide +kernel
theorem dX7_value_132 : decode cX7_value 132 = .ok (.aload_n 1, 1) := by decide +kernel
theorem dX7_value_133 : decode cX7_value 133 = .ok (.aload_n 0, 1) := by decide +kernel
theorem dX7_value_134 : decode cX7_value 134 = .ok (.getfield 36, 3) := by decide +kernel
theorem dX7_value_137 : decode cX7_value 137 = .ok (.invokevirtual 80, 3) := by decide +kernel
theorem dX7_value_140 : decode cX7_value 140 = .ok (.iadd, 1) := by decide +kernel
theorem dX7_value_141 : decode cX7_value 141 = .ok (.goto 4, 3) := by decide +kernel
theorem dX7_value_85 : decode cX7_value 85 = .ok (.aload_n 1, 1) := by decide +kernel
theorem dX7_value_86 : decode cX7_value 86 = .ok (.aload_n 0, 1) := by decide +kernel
theorem dX7_value_87 : decode cX7_value 87 = .ok (.getfield 36, 3) := by decide +kernel
theorem dX7_value_90 : decode cX7_value 90 = .ok (.iconst 1, 1) := by decide +kernel
theorem dX7_value_91 : decode cX7_value 91 = .ok (.invokevirtual 64, 3) := by decide +kernel
theorem dX7_value_94 : decode cX7_value 94 = .ok (.ireturn, 1) := by decide +kernel
theorem ms_X7_wordOfBend : MS RX7 yX7_wordOfBend cX7_wordOfBend 1 (some .int) 1 := ⟨mw_4_44, mw_1_12, mw_4_45, ⟨rfl, by decide, by decide, by decide +kernel⟩⟩
theorem mv_X7_emit : MV RX7 yX7_emit cX7_emit 2 none 1 := ⟨mw_4_48, mp_2_2, mw_1_12, mw_4_49, ⟨rfl, by decide, by decide, by decide +kernel⟩⟩
set_option maxHeartbeats 4000000 in
set_option maxRecDepth 100000 in
theorem cy_X7_value (l : Launch) (D : va_G) (cA : Nat → ClassId) (L : List Nat) (T : Nat → Nat) (r : Rg) (hG : GR L T r) (hL : L.Nodup) (σ : Sg) (ρ : Lg) (hW : WT L ry T σ) (sz : Nat) (h0 : Nat) (mh0 : h0 ∈ L) (th0 : T h0 = 7) (h1 : Nat) (mh1 : h1 ∈ L) (th1 : T h1 = 9) : Met l yX7_value (.code yX7_value cX7_value 4 (some .boolean) :: wsA) ({ frames := 1, cells := 0, slots := 0, locals := 23 }) (PR D cA L T r σ ρ sz [.ref h0, .ref h1]) (QI D cA L T r ry [(7, 5), (7, 6), (7, 7), (9, 6), (41, 1000)] σ sz (fun x σ1 => (0 ≤ x.toInt ∧ x.toInt ≤ 1))) 0 0 (dm L sz) := by
  refine Met.ofW (cc := cX7_value) (maxL := 4) (ret := (some .boolean)) (by decide) rfl ?_
  intro p e s m args below meth c s₁ B hml hv
  obtain ⟨rfl, hsz, hP, hK, hN⟩ := hv
  have hx := B.exec
  have hb := B.bytes
  have hr := B.returns
  have hts : ∀ w ∈ wsA, w.before _ s = true := fun w h => atoms_spec (ws := .code yX7_value cX7_value 4 (some .boolean) :: wsA) B.pre w (List.mem_cons_of_mem _ h)
  have hown : s.vm.findClass RX7 = some m.cls := findClass_of_methodNamed B.named
  subst hsz
  have hLA : LA (dm L s.heap.size) L := ⟨hL, fun a h => Or.inl h⟩
  have hA : ∀ q : Nat, s.heap.size ≤ q → dm L s.heap.size q := fun q h => Or.inr h
  have hS : va_S (dm L s.heap.size) s.heap s.heap [] := va_S.rf
  have hB : TS D cA L T r ry [(7, 5), (7, 6), (7, 7), (9, 6), (41, 1000)] σ σ ρ s.heap := ⟨hP, hW, FR.rf⟩
  have hl := lv_entry ([.ref h0, .ref h1]) (n := 4) (Nat.le_of_ble_eq_true rfl)
  rw [lg_entry_eq]
  generalize (lg_sl ([.ref h0, .ref h1]) ++ List.replicate (4 - (lg_sl ([.ref h0, .ref h1])).length) Slot.unset).toArray = ls at hl ⊢
  have hl : lv_has ls 4 [(0, .ref h0), (1, .ref h1)] := hl
  refine lv_aload_n hx hb dX7_value_0 rfl (lv_at hl 1 rfl) ?_
  refine lv_aload_n hx hb dX7_value_1 rfl (lv_at hl 0 rfl) ?_
  refine t_gi hx hb hts hown hK hB mh0 th0 fi_7_6 rfl mw_2_188 dX7_value_2 (fun x_1 ex_1 lx_1 ux_1 => ?_)
  refine t_ci (va_runV (As := [.int x_1]) (rest := []) ⟨hx, hb, hml, hown, hts⟩ (cy_X9_kindAt l D cA L T r hG hLA.1 σ ρ hB.2.1 _ h1 mh1 th1 x_1) (cV hts mv_X9_kindAt mw_4_41 rfl rfl ⟨Nat.le_of_ble_eq_true rfl, Nat.le_of_ble_eq_true rfl⟩) (pV hB.1 hK hN mh1 th1 (show shp cA 9 _ _ _ = .inr (9, Fs9 _ _ _) from rfl) rfl) rfl rfl hl.1 rfl (lv_room (Nat.le_of_ble_eq_true rfl)) dX7_value_5 ⟨Nat.le_of_ble_eq_true rfl, Nat.le_of_ble_eq_true rfl⟩) hLA hA hB hS (by decide) (fun x_4 σ_2 ρ_3 H locs hB fσ_2 pσ_2 hS => ?_)
  have qσ_2 := FR.nil fσ_2
  subst qσ_2
  obtain ⟨lx_4, ux_4⟩ := pσ_2
  refine lv_sipush (v := 130) hx hb dX7_value_8 (by decide) ?_
  refine lv_icmp_ne (tgt := 18) hx hb dX7_value_11 (by decide) (fun c_5 => ?_) (fun c_5 => ?_)
  · skip
    have uc_5 := i_ne (n := 130) (by decide) c_5
    refine lv_iconst (v := 0) hx hb dX7_value_18 (by decide) ?_
    refine lv_istore_n (lv' := [(2, .int 0), (0, .ref h0), (1, .ref h1)]) hx hb dX7_value_19 rfl hl (by decide) rfl (fun ls hl => ?_)
    refine lv_aload_n hx hb dX7_value_20 rfl (lv_at hl 2 rfl) ?_
    refine lv_aload_n hx hb dX7_value_21 rfl (lv_at hl 1 rfl) ?_
    refine t_gv hx hb hts hown hK hB mh0 th0 fi_7_6 ex_1.symm mw_2_188 dX7_value_22 ?_
    refine t_ci (va_runV (As := [.int x_1]) (rest := []) ⟨hx, hb, hml, hown, hts⟩ (cy_X9_kindAt l D cA L T r hG hLA.1 σ ρ_3 hB.2.1 _ h1 mh1 th1 x_1) (cV hts mv_X9_kindAt mw_4_41 rfl rfl ⟨Nat.le_of_ble_eq_true rfl, Nat.le_of_ble_eq_true rfl⟩) (pV hB.1 hK hN mh1 th1 (show shp cA 9 _ _ _ = .inr (9, Fs9 _ _ _) from rfl) rfl) rfl rfl hl.1 rfl (lv_room (Nat.le_of_ble_eq_true rfl)) dX7_value_25 ⟨Nat.le_of_ble_eq_true rfl, Nat.le_of_ble_eq_true rfl⟩) hLA hA hB hS (by decide) (fun x_8 σ_6 ρ_7 H locs hB fσ_6 pσ_6 hS => ?_)
    have qσ_6 := FR.nil fσ_6
    subst qσ_6
    obtain ⟨lx_8, ux_8⟩ := pσ_6
    refine lv_sipush (v := 131) hx hb dX7_value_28 (by decide) ?_
    refine lv_icmp_ne (tgt := 48) hx hb dX7_value_31 (by decide) (fun c_9 => ?_) (fun c_9 => ?_)
    · skip
      have uc_9 := i_ne (n := 131) (by decide) c_9
      refine lv_iconst (v := (-1)) hx hb dX7_value_48 (by decide) ?_
      refine lv_istore_n (lv' := [(3, .int (-1)), (2, .int 0), (0, .ref h0), (1, .ref h1)]) hx hb dX7_value_49 rfl hl (by decide) rfl (fun ls hl => ?_)
      refine lv_iload_n hx hb dX7_value_50 rfl (lv_at hl 1 rfl) ?_
      refine lv_if_ne (tgt := 69) hx hb dX7_value_51 (by decide) (fun c9 => absurd (by decide) c9) (fun _ => ?_)
      refine lv_iload_n hx hb dX7_value_54 rfl (lv_at hl 0 rfl) ?_
      refine lv_iconst (v := (-1)) hx hb dX7_value_55 (by decide) ?_
      refine lv_icmp_ne (tgt := 69) hx hb dX7_value_56 (by decide) (fun c9 => absurd (by decide) c9) (fun _ => ?_)
      refine lv_aload_n hx hb dX7_value_59 rfl (lv_at hl 3 rfl) ?_
      refine lv_aload_n hx hb dX7_value_60 rfl (lv_at hl 2 rfl) ?_
      refine t_gv hx hb hts hown hK hB mh0 th0 fi_7_6 ex_1.symm mw_2_188 dX7_value_61 ?_
      refine lv_iconst (v := 0) hx hb dX7_value_64 (by decide) ?_
      refine t_ci (va_runV (As := [.int x_1, .int 0]) (rest := []) ⟨hx, hb, hml, hown, hts⟩ (cy_X9_wrong l D cA L T r hG hLA.1 σ ρ_7 hB.2.1 _ h1 mh1 th1 x_1 0 (by first | omega | decide) (by first | omega | decide)) (cV hts mv_X9_wrong mw_4_32 rfl rfl ⟨Nat.le_of_ble_eq_true rfl, Nat.le_of_ble_eq_true rfl⟩) (pV hB.1 hK hN mh1 th1 (show shp cA 9 _ _ _ = .inr (9, Fs9 _ _ _) from rfl) rfl) rfl rfl hl.1 rfl (lv_room (Nat.le_of_ble_eq_true rfl)) dX7_value_65 ⟨Nat.le_of_ble_eq_true rfl, Nat.le_of_ble_eq_true rfl⟩) hLA hA hB hS (by decide) (fun x_12 σ_10 ρ_11 H locs hB fσ_10 pσ_10 hS => ?_)
      obtain ⟨g_13, g_14⟩ := pσ_10
      subst g_13
      exact W.zret (v := 0) hx hb hr rfl (fun t ht hW => ⟨⟨0, (σ_10, ρ_11), rfl, ⟨hB.2.1, hB.2.2, (show 0 ≤ (0 : Int32).toInt ∧ (0 : Int32).toInt ≤ 1 from ⟨by decide, by decide⟩)⟩, (show TP D cA L T r σ_10 ρ_11 t.heap from by rw [ht]; exact hB.1)⟩, hS.F ht⟩) hS.2.2 dX7_value_68
    · skip
      have uc_9 := i_eq (n := 131) (by decide) c_9
      refine lv_aload_n hx hb dX7_value_34 rfl (lv_at hl 2 rfl) ?_
      refine lv_aload_n hx hb dX7_value_35 rfl (lv_at hl 1 rfl) ?_
      refine t_gv hx hb hts hown hK hB mh0 th0 fi_7_6 ex_1.symm mw_2_188 dX7_value_36 ?_
      refine t_ci (va_runV (As := [.int x_1]) (rest := []) ⟨hx, hb, hml, hown, hts⟩ (cy_X9_valueAt l D cA L T r hG hLA.1 σ ρ_7 hB.2.1 _ h1 mh1 th1 x_1) (cV hts mv_X9_valueAt mw_4_42 rfl rfl ⟨Nat.le_of_ble_eq_true rfl, Nat.le_of_ble_eq_true rfl⟩) (pV hB.1 hK hN mh1 th1 (show shp cA 9 _ _ _ = .inr (9, Fs9 _ _ _) from rfl) rfl) rfl rfl hl.1 rfl (lv_room (Nat.le_of_ble_eq_true rfl)) dX7_value_39 ⟨Nat.le_of_ble_eq_true rfl, Nat.le_of_ble_eq_true rfl⟩) hLA hA hB hS (by decide) (fun x_17 σ_15 ρ_16 H locs hB fσ_15 pσ_15 hS => ?_)
      have qσ_15 := FR.nil fσ_15
      subst qσ_15
      obtain ⟨lx_17, ux_17⟩ := pσ_15
      refine t_ci (va_runS (As := [.int x_17]) (rest := []) ⟨hx, hb, hml, hown, hts⟩ (cy_X7_wordOfBend l D cA L T r hG hLA.1 σ ρ_16 hB.2.1 _ x_17 (by first | omega | decide) (by first | omega | decide)) (cS hts ms_X7_wordOfBend mw_4_43 rfl rfl ⟨Nat.le_of_ble_eq_true rfl, Nat.le_of_ble_eq_true rfl⟩) (pS hB.1 hK hN) rfl rfl hl.1 rfl (lv_room (Nat.le_of_ble_eq_true rfl)) dX7_value_42 ⟨Nat.le_of_ble_eq_true rfl, Nat.le_of_ble_eq_true rfl⟩) hLA hA hB hS (by decide) (fun x_20 σ_18 ρ_19 H locs hB fσ_18 pσ_18 hS => ?_)
      have qσ_18 := FR.nil fσ_18
      subst qσ_18
      obtain ⟨lx_20, ux_20⟩ := pσ_18
      refine lv_goto (tgt := 49) hx hb dX7_value_45 (by decide) ?_
      refine lv_istore_n (lv' := [(3, .int x_20), (2, .int 0), (0, .ref h0), (1, .ref h1)]) hx hb dX7_value_49 rfl hl (by decide) rfl (fun ls hl => ?_)
      refine lv_iload_n hx hb dX7_value_50 rfl (lv_at hl 1 rfl) ?_
      refine lv_if_ne (tgt := 69) hx hb dX7_value_51 (by decide) (fun c9 => absurd (by decide) c9) (fun _ => ?_)
      refine lv_iload_n hx hb dX7_value_54 rfl (lv_at hl 0 rfl) ?_
      refine lv_iconst (v := (-1)) hx hb dX7_value_55 (by decide) ?_
      refine lv_icmp_ne (tgt := 69) hx hb dX7_value_56 (by decide) (fun c_21 => ?_) (fun c_21 => ?_)
      · skip
        have uc_21 := i_ne (n := (-1)) (by decide) c_21
        refine lv_iload_n hx hb dX7_value_69 rfl (lv_at hl 1 rfl) ?_
        refine lv_if_eq (tgt := 95) hx hb dX7_value_70 (by decide) (fun _ => ?_) (fun c9 => absurd (by decide) c9)
        refine lv_aload_n hx hb dX7_value_95 rfl (lv_at hl 2 rfl) ?_
        refine t_gi hx hb hts hown hK hB mh0 th0 fi_7_7 rfl mw_2_189 dX7_value_96 (fun x_22 ex_22 lx_22 ux_22 => ?_)
        refine lv_bipush (v := 60) hx hb dX7_value_99 (by decide) ?_
        refine lv_icmp_lt (tgt := 114) hx hb dX7_value_101 (by decide) (fun c_23 => ?_) (fun c_23 => ?_)
        · skip
          have uc_23 := i_lt (n := 60) (by decide) c_23
          refine lv_aload_n hx hb dX7_value_114 rfl (lv_at hl 2 rfl) ?_
          refine lv_dup hx hb dX7_value_115 rfl ?_
          refine t_gv hx hb hts hown hK hB mh0 th0 fi_7_7 ex_22.symm mw_2_189 dX7_value_116 ?_
          refine lv_iconst (v := 1) hx hb dX7_value_119 (by decide) ?_
          refine lv_iadd hx hb dX7_value_120 ?_
          refine lv_topi (fun x_24 ex_24 => ?_)
          have vx_24 := b_add (rfl : x_22.toInt = _) (by decide : (1 : Int32).toInt = 1) ex_24 (by omega) (by omega)
          refine t_pi hx hb hts hown hK hLA hB hS mh0 th0 fi_7_7 rfl rfl rfl (i_lo _) (i_hi _) (Or.inl (by decide)) mw_2_189 dX7_value_121 (fun H locs σ_25 eσ_25 hB hS => ?_)
          have k_26 : σ_25 h0 7 = x_24 := by rw [eσ_25]; exact up2_same _ _ _ _
          refine lv_aload_n hx hb dX7_value_124 rfl (lv_at hl 2 rfl) ?_
          refine lv_iload_n hx hb dX7_value_125 rfl (lv_at hl 1 rfl) ?_
          refine lv_if_eq (tgt := 144) hx hb dX7_value_126 (by decide) (fun _ => ?_) (fun c9 => absurd (by decide) c9)
          refine lv_iload_n hx hb dX7_value_144 rfl (lv_at hl 0 rfl) ?_
          refine t_cv (va_runV (As := [.int x_20]) (rest := []) ⟨hx, hb, hml, hown, hts⟩ (cy_X7_emit l D cA L T r hG hLA.1 σ_25 ρ_19 hB.2.1 _ h0 mh0 th0 x_20 (by first | omega | decide) (by first | omega | decide)) (cV hts mv_X7_emit mw_4_46 rfl rfl ⟨Nat.le_of_ble_eq_true rfl, Nat.le_of_ble_eq_true rfl⟩) (pV hB.1 hK hN mh0 th0 (show shp cA 7 _ _ _ = .inr (7, Fs7 _ _ _) from rfl) rfl) rfl rfl hl.1 rfl (lv_room (Nat.le_of_ble_eq_true rfl)) dX7_value_145 ⟨Nat.le_of_ble_eq_true rfl, Nat.le_of_ble_eq_true rfl⟩) hLA hA hB hS (by decide) (fun σ_27 ρ_28 H locs hB fσ_27 pσ_27 hS => ?_)
          refine lv_aload_n hx hb dX7_value_148 rfl (lv_at hl 2 rfl) ?_
          refine lv_dup hx hb dX7_value_149 rfl ?_
          have k_30 : σ_25 h0 6 = x_1 := by rw [eσ_25, up2_nej _ _ (by decide)]; exact ex_1.symm
          have k_31 : σ_27 h0 6 = x_1 := (FR.at fσ_27 th0 (by decide)).trans k_30
          refine t_gv hx hb hts hown hK hB mh0 th0 fi_7_6 k_31 mw_2_188 dX7_value_150 ?_
          refine lv_iconst (v := 1) hx hb dX7_value_153 (by decide) ?_
          refine lv_iadd hx hb dX7_value_154 ?_
          refine lv_topi (fun x_32 ex_32 => ?_)
          refine t_pi hx hb hts hown hK hLA hB hS mh0 th0 fi_7_6 rfl rfl rfl (i_lo _) (i_hi _) (Or.inl (by decide)) mw_2_188 dX7_value_155 (fun H locs σ_33 eσ_33 hB hS => ?_)
          have k_34 : σ_33 h0 6 = x_32 := by rw [eσ_33]; exact up2_same _ _ _ _
          refine lv_iconst (v := 1) hx hb dX7_value_158 (by decide) ?_
          exact W.zret (v := 1) hx hb hr rfl (fun t ht hW => ⟨⟨1, (σ_33, ρ_28), rfl, ⟨hB.2.1, hB.2.2, (show 0 ≤ (1 : Int32).toInt ∧ (1 : Int32).toInt ≤ 1 from ⟨by decide, by decide⟩)⟩, (show TP D cA L T r σ_33 ρ_28 t.heap from by rw [ht]; exact hB.1)⟩, hS.F ht⟩) hS.2.2 dX7_value_159
        · skip
          have uc_23 := i_nlt (n := 60) (by decide) c_23
          refine lv_aload_n hx hb dX7_value_104 rfl (lv_at hl 3 rfl) ?_
          refine lv_aload_n hx hb dX7_value_105 rfl (lv_at hl 2 rfl) ?_
          refine t_gv hx hb hts hown hK hB mh0 th0 fi_7_6 ex_1.symm mw_2_188 dX7_value_106 ?_
          refine lv_iconst (v := 3) hx hb dX7_value_109 (by decide) ?_
          refine t_ci (va_runV (As := [.int x_1, .int 3]) (rest := []) ⟨hx, hb, hml, hown, hts⟩ (cy_X9_wrong l D cA L T r hG hLA.1 σ ρ_19 hB.2.1 _ h1 mh1 th1 x_1 3 (by first | omega | decide) (by first | omega | decide)) (cV hts mv_X9_wrong mw_4_32 rfl rfl ⟨Nat.le_of_ble_eq_true rfl, Nat.le_of_ble_eq_true rfl⟩) (pV hB.1 hK hN mh1 th1 (show shp cA 9 _ _ _ = .inr (9, Fs9 _ _ _) from rfl) rfl) rfl rfl hl.1 rfl (lv_room (Nat.le_of_ble_eq_true rfl)) dX7_value_110 ⟨Nat.le_of_ble_eq_true rfl, Nat.le_of_ble_eq_true rfl⟩) hLA hA hB hS (by decide) (fun x_37 σ_35 ρ_36 H locs hB fσ_35 pσ_35 hS => ?_)
          obtain ⟨g_38, g_39⟩ := pσ_35
          subst g_38
          exact W.zret (v := 0) hx hb hr rfl (fun t ht hW => ⟨⟨0, (σ_35, ρ_36), rfl, ⟨hB.2.1, hB.2.2, (show 0 ≤ (0 : Int32).toInt ∧ (0 : Int32).toInt ≤ 1 from ⟨by decide, by decide⟩)⟩, (show TP D cA L T r σ_35 ρ_36 t.heap from by rw [ht]; exact hB.1)⟩, hS.F ht⟩) hS.2.2 dX7_value_113
      · skip
        have uc_21 := i_eq (n := (-1)) (by decide) c_21
        refine lv_aload_n hx hb dX7_value_59 rfl (lv_at hl 3 rfl) ?_
        refine lv_aload_n hx hb dX7_value_60 rfl (lv_at hl 2 rfl) ?_
        refine t_gv hx hb hts hown hK hB mh0 th0 fi_7_6 ex_1.symm mw_2_188 dX7_value_61 ?_
        refine lv_iconst (v := 0) hx hb dX7_value_64 (by decide) ?_
        refine t_ci (va_runV (As := [.int x_1, .int 0]) (rest := []) ⟨hx, hb, hml, hown, hts⟩ (cy_X9_wrong l D cA L T r hG hLA.1 σ ρ_19 hB.2.1 _ h1 mh1 th1 x_1 0 (by first | omega | decide) (by first | omega | decide)) (cV hts mv_X9_wrong mw_4_32 rfl rfl ⟨Nat.le_of_ble_eq_true rfl, Nat.le_of_ble_eq_true rfl⟩) (pV hB.1 hK hN mh1 th1 (show shp cA 9 _ _ _ = .inr (9, Fs9 _ _ _) from rfl) rfl) rfl rfl hl.1 rfl (lv_room (Nat.le_of_ble_eq_true rfl)) dX7_value_65 ⟨Nat.le_of_ble_eq_true rfl, Nat.le_of_ble_eq_true rfl⟩) hLA hA hB hS (by decide) (fun x_42 σ_40 ρ_41 H locs hB fσ_40 pσ_40 hS => ?_)
        obtain ⟨g_43, g_44⟩ := pσ_40
        subst g_43
        exact W.zret (v := 0) hx hb hr rfl (fun t ht hW => ⟨⟨0, (σ_40, ρ_41), rfl, ⟨hB.2.1, hB.2.2, (show 0 ≤ (0 : Int32).toInt ∧ (0 : Int32).toInt ≤ 1 from ⟨by decide, by decide⟩)⟩, (show TP D cA L T r σ_40 ρ_41 t.heap from by rw [ht]; exact hB.1)⟩, hS.F ht⟩) hS.2.2 dX7_value_68
  · skip
    have uc_5 := i_eq (n := 130) (by decide) c_5
    refine lv_iconst (v := 1) hx hb dX7_value_14 (by decide) ?_
    refine lv_goto (tgt := 19) hx hb dX7_value_15 (by decide) ?_
    refine lv_istore_n (lv' := [(2, .int 1), (0, .ref h0), (1, .ref h1)]) hx hb dX7_value_19 rfl hl (by decide) rfl (fun ls hl => ?_)
    refine lv_aload_n hx hb dX7_value_20 rfl (lv_at hl 2 rfl) ?_
    refine lv_aload_n hx hb dX7_value_21 rfl (lv_at hl 1 rfl) ?_
    refine t_gv hx hb hts hown hK hB mh0 th0 fi_7_6 ex_1.symm mw_2_188 dX7_value_22 ?_
    refine t_ci (va_runV (As := [.int x_1]) (rest := []) ⟨hx, hb, hml, hown, hts⟩ (cy_X9_kindAt l D cA L T r hG hLA.1 σ ρ_3 hB.2.1 _ h1 mh1 th1 x_1) (cV hts mv_X9_kindAt mw_4_41 rfl rfl ⟨Nat.le_of_ble_eq_true rfl, Nat.le_of_ble_eq_true rfl⟩) (pV hB.1 hK hN mh1 th1 (show shp cA 9 _ _ _ = .inr (9, Fs9 _ _ _) from rfl) rfl) rfl rfl hl.1 rfl (lv_room (Nat.le_of_ble_eq_true rfl)) dX7_value_25 ⟨Nat.le_of_ble_eq_true rfl, Nat.le_of_ble_eq_true rfl⟩) hLA hA hB hS (by decide) (fun x_47 σ_45 ρ_46 H locs hB fσ_45 pσ_45 hS => ?_)
    have qσ_45 := FR.nil fσ_45
    subst qσ_45
    obtain ⟨lx_47, ux_47⟩ := pσ_45
    refine lv_sipush (v := 131) hx hb dX7_value_28 (by decide) ?_
    refine lv_icmp_ne (tgt := 48) hx hb dX7_value_31 (by decide) (fun c_48 => ?_) (fun c_48 => ?_)
    · skip
      have uc_48 := i_ne (n := 131) (by decide) c_48
      refine lv_iconst (v := (-1)) hx hb dX7_value_48 (by decide) ?_
      refine lv_istore_n (lv' := [(3, .int (-1)), (2, .int 1), (0, .ref h0), (1, .ref h1)]) hx hb dX7_value_49 rfl hl (by decide) rfl (fun ls hl => ?_)
      refine lv_iload_n hx hb dX7_value_50 rfl (lv_at hl 1 rfl) ?_
      refine lv_if_ne (tgt := 69) hx hb dX7_value_51 (by decide) (fun _ => ?_) (fun c9 => absurd c9 (by decide))
      refine lv_iload_n hx hb dX7_value_69 rfl (lv_at hl 1 rfl) ?_
      refine lv_if_eq (tgt := 95) hx hb dX7_value_70 (by decide) (fun c9 => absurd c9 (by decide)) (fun _ => ?_)
      refine lv_aload_n hx hb dX7_value_73 rfl (lv_at hl 3 rfl) ?_
      refine lv_aload_n hx hb dX7_value_74 rfl (lv_at hl 2 rfl) ?_
      refine t_gv hx hb hts hown hK hB mh0 th0 fi_7_6 ex_1.symm mw_2_188 dX7_value_75 ?_
      refine t_ci (va_runV (As := [.int x_1]) (rest := []) ⟨hx, hb, hml, hown, hts⟩ (cy_X9_valueAt l D cA L T r hG hLA.1 σ ρ_46 hB.2.1 _ h1 mh1 th1 x_1) (cV hts mv_X9_valueAt mw_4_42 rfl rfl ⟨Nat.le_of_ble_eq_true rfl, Nat.le_of_ble_eq_true rfl⟩) (pV hB.1 hK hN mh1 th1 (show shp cA 9 _ _ _ = .inr (9, Fs9 _ _ _) from rfl) rfl) rfl rfl hl.1 rfl (lv_room (Nat.le_of_ble_eq_true rfl)) dX7_value_78 ⟨Nat.le_of_ble_eq_true rfl, Nat.le_of_ble_eq_true rfl⟩) hLA hA hB hS (by decide) (fun x_51 σ_49 ρ_50 H locs hB fσ_49 pσ_49 hS => ?_)
      have qσ_49 := FR.nil fσ_49
      subst qσ_49
      obtain ⟨lx_51, ux_51⟩ := pσ_49
      refine lv_iconst (v := (-1)) hx hb dX7_value_81 (by decide) ?_
      refine lv_icmp_ne (tgt := 95) hx hb dX7_value_82 (by decide) (fun c_52 => ?_) (fun c_52 => ?_)
      · skip
        have uc_52 := i_ne (n := (-1)) (by decide) c_52
        refine lv_aload_n hx hb dX7_value_95 rfl (lv_at hl 2 rfl) ?_
        refine t_gi hx hb hts hown hK hB mh0 th0 fi_7_7 rfl mw_2_189 dX7_value_96 (fun x_53 ex_53 lx_53 ux_53 => ?_)
        refine lv_bipush (v := 60) hx hb dX7_value_99 (by decide) ?_
        refine lv_icmp_lt (tgt := 114) hx hb dX7_value_101 (by decide) (fun c_54 => ?_) (fun c_54 => ?_)
        · skip
          have uc_54 := i_lt (n := 60) (by decide) c_54
          refine lv_aload_n hx hb dX7_value_114 rfl (lv_at hl 2 rfl) ?_
          refine lv_dup hx hb dX7_value_115 rfl ?_
          refine t_gv hx hb hts hown hK hB mh0 th0 fi_7_7 ex_53.symm mw_2_189 dX7_value_116 ?_
          refine lv_iconst (v := 1) hx hb dX7_value_119 (by decide) ?_
          refine lv_iadd hx hb dX7_value_120 ?_
          refine lv_topi (fun x_55 ex_55 => ?_)
          have vx_55 := b_add (rfl : x_53.toInt = _) (by decide : (1 : Int32).toInt = 1) ex_55 (by omega) (by omega)
          refine t_pi hx hb hts hown hK hLA hB hS mh0 th0 fi_7_7 rfl rfl rfl (i_lo _) (i_hi _) (Or.inl (by decide)) mw_2_189 dX7_value_121 (fun H locs σ_56 eσ_56 hB hS => ?_)
          have k_57 : σ_56 h0 7 = x_55 := by rw [eσ_56]; exact up2_same _ _ _ _
          refine lv_aload_n hx hb dX7_value_124 rfl (lv_at hl 2 rfl) ?_
          refine lv_iload_n hx hb dX7_value_125 rfl (lv_at hl 1 rfl) ?_
          refine lv_if_eq (tgt := 144) hx hb dX7_value_126 (by decide) (fun c9 => absurd c9 (by decide)) (fun _ => ?_)
          refine lv_sipush (v := 1000) hx hb dX7_value_129 (by decide) ?_
          refine lv_aload_n hx hb dX7_value_132 rfl (lv_at hl 3 rfl) ?_
          refine lv_aload_n hx hb dX7_value_133 rfl (lv_at hl 2 rfl) ?_
          have k_58 : σ_56 h0 6 = x_1 := by rw [eσ_56, up2_nej _ _ (by decide)]; exact ex_1.symm
          refine t_gv hx hb hts hown hK hB mh0 th0 fi_7_6 k_58 mw_2_188 dX7_value_134 ?_
          refine t_ci (va_runV (As := [.int x_1]) (rest := [.int 1000, .ref h0]) ⟨hx, hb, hml, hown, hts⟩ (cy_X9_valueAt l D cA L T r hG hLA.1 σ_56 ρ_50 hB.2.1 _ h1 mh1 th1 x_1) (cV hts mv_X9_valueAt mw_4_42 rfl rfl ⟨Nat.le_of_ble_eq_true rfl, Nat.le_of_ble_eq_true rfl⟩) (pV hB.1 hK hN mh1 th1 (show shp cA 9 _ _ _ = .inr (9, Fs9 _ _ _) from rfl) rfl) rfl rfl hl.1 rfl (lv_room (Nat.le_of_ble_eq_true rfl)) dX7_value_137 ⟨Nat.le_of_ble_eq_true rfl, Nat.le_of_ble_eq_true rfl⟩) hLA hA hB hS (by decide) (fun x_61 σ_59 ρ_60 H locs hB fσ_59 pσ_59 hS => ?_)
          have qσ_59 := FR.nil fσ_59
          subst qσ_59
          obtain ⟨lx_61, ux_61⟩ := pσ_59
          refine lv_iadd hx hb dX7_value_140 ?_
          refine lv_topi (fun x_62 ex_62 => ?_)
          have vx_62 := b_add (by decide : (1000 : Int32).toInt = 1000) (rfl : x_61.toInt = _) ex_62 (by omega) (by omega)
          refine lv_goto (tgt := 145) hx hb dX7_value_141 (by decide) ?_
          refine t_cv (va_runV (As := [.int x_62]) (rest := []) ⟨hx, hb, hml, hown, hts⟩ (cy_X7_emit l D cA L T r hG hLA.1 σ_56 ρ_60 hB.2.1 _ h0 mh0 th0 x_62 (by first | omega | decide) (by first | omega | decide)) (cV hts mv_X7_emit mw_4_46 rfl rfl ⟨Nat.le_of_ble_eq_true rfl, Nat.le_of_ble_eq_true rfl⟩) (pV hB.1 hK hN mh0 th0 (show shp cA 7 _ _ _ = .inr (7, Fs7 _ _ _) from rfl) rfl) rfl rfl hl.1 rfl (lv_room (Nat.le_of_ble_eq_true rfl)) dX7_value_145 ⟨Nat.le_of_ble_eq_true rfl, Nat.le_of_ble_eq_true rfl⟩) hLA hA hB hS (by decide) (fun σ_63 ρ_64 H locs hB fσ_63 pσ_63 hS => ?_)
          refine lv_aload_n hx hb dX7_value_148 rfl (lv_at hl 2 rfl) ?_
          refine lv_dup hx hb dX7_value_149 rfl ?_
          have k_66 : σ_63 h0 6 = x_1 := (FR.at fσ_63 th0 (by decide)).trans k_58
          refine t_gv hx hb hts hown hK hB mh0 th0 fi_7_6 k_66 mw_2_188 dX7_value_150 ?_
          refine lv_iconst (v := 1) hx hb dX7_value_153 (by decide) ?_
          refine lv_iadd hx hb dX7_value_154 ?_
          refine lv_topi (fun x_67 ex_67 => ?_)
          refine t_pi hx hb hts hown hK hLA hB hS mh0 th0 fi_7_6 rfl rfl rfl (i_lo _) (i_hi _) (Or.inl (by decide)) mw_2_188 dX7_value_155 (fun H locs σ_68 eσ_68 hB hS => ?_)
          have k_69 : σ_68 h0 6 = x_67 := by rw [eσ_68]; exact up2_same _ _ _ _
          refine lv_iconst (v := 1) hx hb dX7_value_158 (by decide) ?_
          exact W.zret (v := 1) hx hb hr rfl (fun t ht hW => ⟨⟨1, (σ_68, ρ_64), rfl, ⟨hB.2.1, hB.2.2, (show 0 ≤ (1 : Int32).toInt ∧ (1 : Int32).toInt ≤ 1 from ⟨by decide, by decide⟩)⟩, (show TP D cA L T r σ_68 ρ_64 t.heap from by rw [ht]; exact hB.1)⟩, hS.F ht⟩) hS.2.2 dX7_value_159
        · skip
          have uc_54 := i_nlt (n := 60) (by decide) c_54
          refine lv_aload_n hx hb dX7_value_104 rfl (lv_at hl 3 rfl) ?_
          refine lv_aload_n hx hb dX7_value_105 rfl (lv_at hl 2 rfl) ?_
          refine t_gv hx hb hts hown hK hB mh0 th0 fi_7_6 ex_1.symm mw_2_188 dX7_value_106 ?_
          refine lv_iconst (v := 3) hx hb dX7_value_109 (by decide) ?_
          refine t_ci (va_runV (As := [.int x_1, .int 3]) (rest := []) ⟨hx, hb, hml, hown, hts⟩ (cy_X9_wrong l D cA L T r hG hLA.1 σ ρ_50 hB.2.1 _ h1 mh1 th1 x_1 3 (by first | omega | decide) (by first | omega | decide)) (cV hts mv_X9_wrong mw_4_32 rfl rfl ⟨Nat.le_of_ble_eq_true rfl, Nat.le_of_ble_eq_true rfl⟩) (pV hB.1 hK hN mh1 th1 (show shp cA 9 _ _ _ = .inr (9, Fs9 _ _ _) from rfl) rfl) rfl rfl hl.1 rfl (lv_room (Nat.le_of_ble_eq_true rfl)) dX7_value_110 ⟨Nat.le_of_ble_eq_true rfl, Nat.le_of_ble_eq_true rfl⟩) hLA hA hB hS (by decide) (fun x_72 σ_70 ρ_71 H locs hB fσ_70 pσ_70 hS => ?_)
          obtain ⟨g_73, g_74⟩ := pσ_70
          subst g_73
          exact W.zret (v := 0) hx hb hr rfl (fun t ht hW => ⟨⟨0, (σ_70, ρ_71), rfl, ⟨hB.2.1, hB.2.2, (show 0 ≤ (0 : Int32).toInt ∧ (0 : Int32).toInt ≤ 1 from ⟨by decide, by decide⟩)⟩, (show TP D cA L T r σ_70 ρ_71 t.heap from by rw [ht]; exact hB.1)⟩, hS.F ht⟩) hS.2.2 dX7_value_113
      · skip
        have uc_52 := i_eq (n := (-1)) (by decide) c_52
        refine lv_aload_n hx hb dX7_value_85 rfl (lv_at hl 3 rfl) ?_
        refine lv_aload_n hx hb dX7_value_86 rfl (lv_at hl 2 rfl) ?_
        refine t_gv hx hb hts hown hK hB mh0 th0 fi_7_6 ex_1.symm mw_2_188 dX7_value_87 ?_
        refine lv_iconst (v := 1) hx hb dX7_value_90 (by decide) ?_
        refine t_ci (va_runV (As := [.int x_1, .int 1]) (rest := []) ⟨hx, hb, hml, hown, hts⟩ (cy_X9_wrong l D cA L T r hG hLA.1 σ ρ_50 hB.2.1 _ h1 mh1 th1 x_1 1 (by first | omega | decide) (by first | omega | decide)) (cV hts mv_X9_wrong mw_4_32 rfl rfl ⟨Nat.le_of_ble_eq_true rfl, Nat.le_of_ble_eq_true rfl⟩) (pV hB.1 hK hN mh1 th1 (show shp cA 9 _ _ _ = .inr (9, Fs9 _ _ _) from rfl) rfl) rfl rfl hl.1 rfl (lv_room (Nat.le_of_ble_eq_true rfl)) dX7_value_91 ⟨Nat.le_of_ble_eq_true rfl, Nat.le_of_ble_eq_true rfl⟩) hLA hA hB hS (by decide) (fun x_77 σ_75 ρ_76 H locs hB fσ_75 pσ_75 hS => ?_)
        obtain ⟨g_78, g_79⟩ := pσ_75
        subst g_78
        exact W.zret (v := 0) hx hb hr rfl (fun t ht hW => ⟨⟨0, (σ_75, ρ_76), rfl, ⟨hB.2.1, hB.2.2, (show 0 ≤ (0 : Int32).toInt ∧ (0 : Int32).toInt ≤ 1 from ⟨by decide, by decide⟩)⟩, (show TP D cA L T r σ_75 ρ_76 t.heap from by rw [ht]; exact hB.1)⟩, hS.F ht⟩) hS.2.2 dX7_value_94
    · skip
      have uc_48 := i_eq (n := 131) (by decide) c_48
      refine lv_aload_n hx hb dX7_value_34 rfl (lv_at hl 2 rfl) ?_
      refine lv_aload_n hx hb dX7_value_35 rfl (lv_at hl 1 rfl) ?_
      refine t_gv hx hb hts hown hK hB mh0 th0 fi_7_6 ex_1.symm mw_2_188 dX7_value_36 ?_
      refine t_ci (va_runV (As := [.int x_1]) (rest := []) ⟨hx, hb, hml, hown, hts⟩ (cy_X9_valueAt l D cA L T r hG hLA.1 σ ρ_46 hB.2.1 _ h1 mh1 th1 x_1) (cV hts mv_X9_valueAt mw_4_42 rfl rfl ⟨Nat.le_of_ble_eq_true rfl, Nat.le_of_ble_eq_true rfl⟩) (pV hB.1 hK hN mh1 th1 (show shp cA 9 _ _ _ = .inr (9, Fs9 _ _ _) from rfl) rfl) rfl rfl hl.1 rfl (lv_room (Nat.le_of_ble_eq_true rfl)) dX7_value_39 ⟨Nat.le_of_ble_eq_true rfl, Nat.le_of_ble_eq_true rfl⟩) hLA hA hB hS (by decide) (fun x_82 σ_80 ρ_81 H locs hB fσ_80 pσ_80 hS => ?_)
      have qσ_80 := FR.nil fσ_80
      subst qσ_80
      obtain ⟨lx_82, ux_82⟩ := pσ_80
      refine t_ci (va_runS (As := [.int x_82]) (rest := []) ⟨hx, hb, hml, hown, hts⟩ (cy_X7_wordOfBend l D cA L T r hG hLA.1 σ ρ_81 hB.2.1 _ x_82 (by first | omega | decide) (by first | omega | decide)) (cS hts ms_X7_wordOfBend mw_4_43 rfl rfl ⟨Nat.le_of_ble_eq_true rfl, Nat.le_of_ble_eq_true rfl⟩) (pS hB.1 hK hN) rfl rfl hl.1 rfl (lv_room (Nat.le_of_ble_eq_true rfl)) dX7_value_42 ⟨Nat.le_of_ble_eq_true rfl, Nat.le_of_ble_eq_true rfl⟩) hLA hA hB hS (by decide) (fun x_85 σ_83 ρ_84 H locs hB fσ_83 pσ_83 hS => ?_)
      have qσ_83 := FR.nil fσ_83
      subst qσ_83
      obtain ⟨lx_85, ux_85⟩ := pσ_83
      refine lv_goto (tgt := 49) hx hb dX7_value_45 (by decide) ?_
      refine lv_istore_n (lv' := [(3, .int x_85), (2, .int 1), (0, .ref h0), (1, .ref h1)]) hx hb dX7_value_49 rfl hl (by decide) rfl (fun ls hl => ?_)
      refine lv_iload_n hx hb dX7_value_50 rfl (lv_at hl 1 rfl) ?_
      refine lv_if_ne (tgt := 69) hx hb dX7_value_51 (by decide) (fun _ => ?_) (fun c9 => absurd c9 (by decide))
      refine lv_iload_n hx hb dX7_value_69 rfl (lv_at hl 1 rfl) ?_
      refine lv_if_eq (tgt := 95) hx hb dX7_value_70 (by decide) (fun c9 => absurd c9 (by decide)) (fun _ => ?_)
      refine lv_aload_n hx hb dX7_value_73 rfl (lv_at hl 3 rfl) ?_
      refine lv_aload_n hx hb dX7_value_74 rfl (lv_at hl 2 rfl) ?_
      refine t_gv hx hb hts hown hK hB mh0 th0 fi_7_6 ex_1.symm mw_2_188 dX7_value_75 ?_
      refine t_ci (va_runV (As := [.int x_1]) (rest := []) ⟨hx, hb, hml, hown, hts⟩ (cy_X9_valueAt l D cA L T r hG hLA.1 σ ρ_84 hB.2.1 _ h1 mh1 th1 x_1) (cV hts mv_X9_valueAt mw_4_42 rfl rfl ⟨Nat.le_of_ble_eq_true rfl, Nat.le_of_ble_eq_true rfl⟩) (pV hB.1 hK hN mh1 th1 (show shp cA 9 _ _ _ = .inr (9, Fs9 _ _ _) from rfl) rfl) rfl rfl hl.1 rfl (lv_room (Nat.le_of_ble_eq_true rfl)) dX7_value_78 ⟨Nat.le_of_ble_eq_true rfl, Nat.le_of_ble_eq_true rfl⟩) hLA hA hB hS (by decide) (fun x_88 σ_86 ρ_87 H locs hB fσ_86 pσ_86 hS => ?_)
      have qσ_86 := FR.nil fσ_86
      subst qσ_86
      obtain ⟨lx_88, ux_88⟩ := pσ_86
      refine lv_iconst (v := (-1)) hx hb dX7_value_81 (by decide) ?_
      refine lv_icmp_ne (tgt := 95) hx hb dX7_value_82 (by decide) (fun c_89 => ?_) (fun c_89 => ?_)
      · skip
        have uc_89 := i_ne (n := (-1)) (by decide) c_89
        refine lv_aload_n hx hb dX7_value_95 rfl (lv_at hl 2 rfl) ?_
        refine t_gi hx hb hts hown hK hB mh0 th0 fi_7_7 rfl mw_2_189 dX7_value_96 (fun x_90 ex_90 lx_90 ux_90 => ?_)
        refine lv_bipush (v := 60) hx hb dX7_value_99 (by decide) ?_
        refine lv_icmp_lt (tgt := 114) hx hb dX7_value_101 (by decide) (fun c_91 => ?_) (fun c_91 => ?_)
        · skip
          have uc_91 := i_lt (n := 60) (by decide) c_91
          refine lv_aload_n hx hb dX7_value_114 rfl (lv_at hl 2 rfl) ?_
          refine lv_dup hx hb dX7_value_115 rfl ?_
          refine t_gv hx hb hts hown hK hB mh0 th0 fi_7_7 ex_90.symm mw_2_189 dX7_value_116 ?_
          refine lv_iconst (v := 1) hx hb dX7_value_119 (by decide) ?_
          refine lv_iadd hx hb dX7_value_120 ?_
          refine lv_topi (fun x_92 ex_92 => ?_)
          have vx_92 := b_add (rfl : x_90.toInt = _) (by decide : (1 : Int32).toInt = 1) ex_92 (by omega) (by omega)
          refine t_pi hx hb hts hown hK hLA hB hS mh0 th0 fi_7_7 rfl rfl rfl (i_lo _) (i_hi _) (Or.inl (by decide)) mw_2_189 dX7_value_121 (fun H locs σ_93 eσ_93 hB hS => ?_)
          have k_94 : σ_93 h0 7 = x_92 := by rw [eσ_93]; exact up2_same _ _ _ _
          refine lv_aload_n hx hb dX7_value_124 rfl (lv_at hl 2 rfl) ?_
          refine lv_iload_n hx hb dX7_value_125 rfl (lv_at hl 1 rfl) ?_
          refine lv_if_eq (tgt := 144) hx hb dX7_value_126 (by decide) (fun c9 => absurd c9 (by decide)) (fun _ => ?_)
          refine lv_sipush (v := 1000) hx hb dX7_value_129 (by decide) ?_
          refine lv_aload_n hx hb dX7_value_132 rfl (lv_at hl 3 rfl) ?_
          refine lv_aload_n hx hb dX7_value_133 rfl (lv_at hl 2 rfl) ?_
          have k_95 : σ_93 h0 6 = x_1 := by rw [eσ_93, up2_nej _ _ (by decide)]; exact ex_1.symm
          refine t_gv hx hb hts hown hK hB mh0 th0 fi_7_6 k_95 mw_2_188 dX7_value_134 ?_
          refine t_ci (va_runV (As := [.int x_1]) (rest := [.int 1000, .ref h0]) ⟨hx, hb, hml, hown, hts⟩ (cy_X9_valueAt l D cA L T r hG hLA.1 σ_93 ρ_87 hB.2.1 _ h1 mh1 th1 x_1) (cV hts mv_X9_valueAt mw_4_42 rfl rfl ⟨Nat.le_of_ble_eq_true rfl, Nat.le_of_ble_eq_true rfl⟩) (pV hB.1 hK hN mh1 th1 (show shp cA 9 _ _ _ = .inr (9, Fs9 _ _ _) from rfl) rfl) rfl rfl hl.1 rfl (lv_room (Nat.le_of_ble_eq_true rfl)) dX7_value_137 ⟨Nat.le_of_ble_eq_true rfl, Nat.le_of_ble_eq_true rfl⟩) hLA hA hB hS (by decide) (fun x_98 σ_96 ρ_97 H locs hB fσ_96 pσ_96 hS => ?_)
          have qσ_96 := FR.nil fσ_96
          subst qσ_96
          obtain ⟨lx_98, ux_98⟩ := pσ_96
          refine lv_iadd hx hb dX7_value_140 ?_
          refine lv_topi (fun x_99 ex_99 => ?_)
          have vx_99 := b_add (by decide : (1000 : Int32).toInt = 1000) (rfl : x_98.toInt = _) ex_99 (by omega) (by omega)
          refine lv_goto (tgt := 145) hx hb dX7_value_141 (by decide) ?_
          refine t_cv (va_runV (As := [.int x_99]) (rest := []) ⟨hx, hb, hml, hown, hts⟩ (cy_X7_emit l D cA L T r hG hLA.1 σ_93 ρ_97 hB.2.1 _ h0 mh0 th0 x_99 (by first | omega | decide) (by first | omega | decide)) (cV hts mv_X7_emit mw_4_46 rfl rfl ⟨Nat.le_of_ble_eq_true rfl, Nat.le_of_ble_eq_true rfl⟩) (pV hB.1 hK hN mh0 th0 (show shp cA 7 _ _ _ = .inr (7, Fs7 _ _ _) from rfl) rfl) rfl rfl hl.1 rfl (lv_room (Nat.le_of_ble_eq_true rfl)) dX7_value_145 ⟨Nat.le_of_ble_eq_true rfl, Nat.le_of_ble_eq_true rfl⟩) hLA hA hB hS (by decide) (fun σ_100 ρ_101 H locs hB fσ_100 pσ_100 hS => ?_)
          refine lv_aload_n hx hb dX7_value_148 rfl (lv_at hl 2 rfl) ?_
          refine lv_dup hx hb dX7_value_149 rfl ?_
          have k_103 : σ_100 h0 6 = x_1 := (FR.at fσ_100 th0 (by decide)).trans k_95
          refine t_gv hx hb hts hown hK hB mh0 th0 fi_7_6 k_103 mw_2_188 dX7_value_150 ?_
          refine lv_iconst (v := 1) hx hb dX7_value_153 (by decide) ?_
          refine lv_iadd hx hb dX7_value_154 ?_
          refine lv_topi (fun x_104 ex_104 => ?_)
          refine t_pi hx hb hts hown hK hLA hB hS mh0 th0 fi_7_6 rfl rfl rfl (i_lo _) (i_hi _) (Or.inl (by decide)) mw_2_188 dX7_value_155 (fun H locs σ_105 eσ_105 hB hS => ?_)
          have k_106 : σ_105 h0 6 = x_104 := by rw [eσ_105]; exact up2_same _ _ _ _
          refine lv_iconst (v := 1) hx hb dX7_value_158 (by decide) ?_
          exact W.zret (v := 1) hx hb hr rfl (fun t ht hW => ⟨⟨1, (σ_105, ρ_101), rfl, ⟨hB.2.1, hB.2.2, (show 0 ≤ (1 : Int32).toInt ∧ (1 : Int32).toInt ≤ 1 from ⟨by decide, by decide⟩)⟩, (show TP D cA L T r σ_105 ρ_101 t.heap from by rw [ht]; exact hB.1)⟩, hS.F ht⟩) hS.2.2 dX7_value_159
        · skip
          have uc_91 := i_nlt (n := 60) (by decide) c_91
          refine lv_aload_n hx hb dX7_value_104 rfl (lv_at hl 3 rfl) ?_
          refine lv_aload_n hx hb dX7_value_105 rfl (lv_at hl 2 rfl) ?_
          refine t_gv hx hb hts hown hK hB mh0 th0 fi_7_6 ex_1.symm mw_2_188 dX7_value_106 ?_
          refine lv_iconst (v := 3) hx hb dX7_value_109 (by decide) ?_
          refine t_ci (va_runV (As := [.int x_1, .int 3]) (rest := []) ⟨hx, hb, hml, hown, hts⟩ (cy_X9_wrong l D cA L T r hG hLA.1 σ ρ_87 hB.2.1 _ h1 mh1 th1 x_1 3 (by first | omega | decide) (by first | omega | decide)) (cV hts mv_X9_wrong mw_4_32 rfl rfl ⟨Nat.le_of_ble_eq_true rfl, Nat.le_of_ble_eq_true rfl⟩) (pV hB.1 hK hN mh1 th1 (show shp cA 9 _ _ _ = .inr (9, Fs9 _ _ _) from rfl) rfl) rfl rfl hl.1 rfl (lv_room (Nat.le_of_ble_eq_true rfl)) dX7_value_110 ⟨Nat.le_of_ble_eq_true rfl, Nat.le_of_ble_eq_true rfl⟩) hLA hA hB hS (by decide) (fun x_109 σ_107 ρ_108 H locs hB fσ_107 pσ_107 hS => ?_)
          obtain ⟨g_110, g_111⟩ := pσ_107
          subst g_110
          exact W.zret (v := 0) hx hb hr rfl (fun t ht hW => ⟨⟨0, (σ_107, ρ_108), rfl, ⟨hB.2.1, hB.2.2, (show 0 ≤ (0 : Int32).toInt ∧ (0 : Int32).toInt ≤ 1 from ⟨by decide, by decide⟩)⟩, (show TP D cA L T r σ_107 ρ_108 t.heap from by rw [ht]; exact hB.1)⟩, hS.F ht⟩) hS.2.2 dX7_value_113
      · skip
        have uc_89 := i_eq (n := (-1)) (by decide) c_89
        refine lv_aload_n hx hb dX7_value_85 rfl (lv_at hl 3 rfl) ?_
        refine lv_aload_n hx hb dX7_value_86 rfl (lv_at hl 2 rfl) ?_
        refine t_gv hx hb hts hown hK hB mh0 th0 fi_7_6 ex_1.symm mw_2_188 dX7_value_87 ?_
        refine lv_iconst (v := 1) hx hb dX7_value_90 (by decide) ?_
        refine t_ci (va_runV (As := [.int x_1, .int 1]) (rest := []) ⟨hx, hb, hml, hown, hts⟩ (cy_X9_wrong l D cA L T r hG hLA.1 σ ρ_87 hB.2.1 _ h1 mh1 th1 x_1 1 (by first | omega | decide) (by first | omega | decide)) (cV hts mv_X9_wrong mw_4_32 rfl rfl ⟨Nat.le_of_ble_eq_true rfl, Nat.le_of_ble_eq_true rfl⟩) (pV hB.1 hK hN mh1 th1 (show shp cA 9 _ _ _ = .inr (9, Fs9 _ _ _) from rfl) rfl) rfl rfl hl.1 rfl (lv_room (Nat.le_of_ble_eq_true rfl)) dX7_value_91 ⟨Nat.le_of_ble_eq_true rfl, Nat.le_of_ble_eq_true rfl⟩) hLA hA hB hS (by decide) (fun x_114 σ_112 ρ_113 H locs hB fσ_112 pσ_112 hS => ?_)
        obtain ⟨g_115, g_116⟩ := pσ_112
        subst g_115
        exact W.zret (v := 0) hx hb hr rfl (fun t ht hW => ⟨⟨0, (σ_112, ρ_113), rfl, ⟨hB.2.1, hB.2.2, (show 0 ≤ (0 : Int32).toInt ∧ (0 : Int32).toInt ≤ 1 from ⟨by decide, by decide⟩)⟩, (show TP D cA L T r σ_112 ρ_113 t.heap from by rw [ht]; exact hB.1)⟩, hS.F ht⟩) hS.2.2 dX7_value_94
theorem mw_4_39 : (.instanceMethod yX7_value : Cond) ∈ wsA := wsA_t (List.mem_append_right _ (List.mem_append_right _ (List.mem_append_right _ (List.mem_append_left _ (List.mem_of_getElem? (l := tables_1_4) (i := 39) rfl))))) rfl
theorem mp_2_1 : (.selects RX7 yX7_value yX7_value : Cond) ∈ wsA := wsA_p (q := (yX7_value, 8)) (List.mem_append_right _ (List.mem_append_left _ (List.mem_of_getElem? (l := lw_privs_2) (i := 1) rfl)))
theorem mw_4_40 : (.code yX7_value cX7_value 4 (some .boolean) : Cond) ∈ wsA := wsA_t (List.mem_append_right _ (List.mem_append_right _ (List.mem_append_right _ (List.mem_append_left _ (List.mem_of_getElem? (l := tables_1_4) (i := 40) rfl))))) rfl
theorem mw_4_37 : (.methodLink RX7 77 yX7_value : Cond) ∈ wsA := wsA_t (List.mem_append_right _ (List.mem_append_right _ (List.mem_append_right _ (List.mem_append_left _ (List.mem_of_getElem? (l := tables_1_4) (i := 37) rfl))))) rfl
theorem dX7_sum_0 : decode cX7_sum 0 = .ok (.iconst 0, 1) := by decide +kernel
theorem dX7_sum_1 : decode cX7_sum 1 = .ok (.istore_n 2, 1) := by decide +kernel
theorem dX7_sum_2 : decode cX7_sum 2 = .ok (.iconst 0, 1) := by decide +kernel
theorem dX7_sum_3 : decode cX7_sum 3 = .ok (.istore_n 3, 1) := by decide +kernel
theorem dX7_sum_4 : decode cX7_sum 4 = .ok (.iconst 1, 1) := by decide +kernel
theorem dX7_sum_5 : decode cX7_sum 5 = .ok (.istore 4, 2) := by decide +kernel
theorem dX7_sum_7 : decode cX7_sum 7 = .ok (.iconst 0, 1) := by decide +kernel
theorem dX7_sum_8 : decode cX7_sum 8 = .ok (.istore 5, 2) := by decide +kernel
theorem dX7_sum_10 : decode cX7_sum 10 = .ok (.iload 4, 2) := by decide +kernel
theorem dX7_sum_12 : decode cX7_sum 12 = .ok (.ifCond .eq 151, 3) := by decide +kernel
theorem dX7_sum_163 : decode cX7_sum 163 = .ok (.iconst 1, 1) := by decide +kernel
theorem dX7_sum_164 : decode cX7_sum 164 = .ok (.ireturn, 1) := by decide +kernel
theorem dX7_sum_15 : decode cX7_sum 15 = .ok (.iload 5, 2) := by decide +kernel
theorem dX7_sum_17 : decode cX7_sum 17 = .ok (.sipush 400, 3) := by decide +kernel
theorem dX7_sum_20 : decode cX7_sum 20 = .ok (.if_icmp .ge 143, 3) := by decide +kernel
theorem dX7_sum_23 : decode cX7_sum 23 = .ok (.aload_n 0, 1) := by decide +kernel
theorem dX7_sum_24 : decode cX7_sum 24 = .ok (.aload_n 1, 1) := by decide +kernel
theorem dX7_sum_25 : decode cX7_sum 25 = .ok (.invokevirtual 77, 3) := by decide +kernel
theorem dX7_sum_28 : decode cX7_sum 28 = .ok (.ifCond .ne 5, 3) := by decide +kernel
theorem dX7_sum_33 : decode cX7_sum 33 = .ok (.iload_n 2, 1) := by decide +kernel
theorem dX7_sum_34 : decode cX7_sum 34 = .ok (.ifCond .eq 8, 3) := by decide +kernel
theorem dX7_sum_42 : decode cX7_sum 42 = .ok (.aload_n 1, 1) := by decide +kernel
theorem dX7_sum_43 : decode cX7_sum 43 = .ok (.aload_n 0, 1) := by decide +kernel
theorem dX7_sum_44 : decode cX7_sum 44 = .ok (.getfield 36, 3) := by decide +kernel
theorem dX7_sum_47 : decode cX7_sum 47 = .ok (.invokevirtual 60, 3) := by decide +kernel
theorem dX7_sum_50 : decode cX7_sum 50 = .ok (.istore 6, 2) := by decide +kernel
theorem dX7_sum_52 : decode cX7_sum 52 = .ok (.iload 6, 2) := by decide +kernel
theorem dX7_sum_54 : decode cX7_sum 54 = .ok (.bipush 42, 2) := by decide +kernel
theorem dX7_sum_56 : decode cX7_sum 56 = .ok (.if_icmp .eq 17, 3) := by decide +kernel
theorem dX7_sum_73 : decode cX7_sum 73 = .ok (.iload 6, 2) := by decide +kernel
theorem dX7_sum_75 : decode cX7_sum 75 = .ok (.goto 4, 3) := by decide +kernel
theorem dX7_sum_79 : decode cX7_sum 79 = .ok (.istore_n 2, 1) := by decide +kernel
theorem dX7_sum_80 : decode cX7_sum 80 = .ok (.iload_n 3, 1) := by decide +kernel
theorem dX7_sum_81 : decode cX7_sum 81 = .ok (.ifCond .eq 12, 3) := by decide +kernel
theorem dX7_sum_93 : decode cX7_sum 93 = .ok (.iload 6, 2) := by decide +kernel
theorem dX7_sum_95 : decode cX7_sum 95 = .ok (.bipush 43, 2) := by decide +kernel
theorem dX7_sum_97 : decode cX7_sum 97 = .ok (.if_icmp .eq 10, 3) := by decide +kernel
theorem dX7_sum_100 : decode cX7_sum 100 = .ok (.iload 6, 2) := by decide +kernel
theorem dX7_sum_102 : decode cX7_sum 102 = .ok (.bipush 45, 2) := by decide +kernel
theorem dX7_sum_104 : decode cX7_sum 104 = .ok (.if_icmp .ne 7, 3) := by decide +kernel
theorem dX7_sum_111 : decode cX7_sum 111 = .ok (.iconst 0, 1) := by decide +kernel
theorem dX7_sum_112 : decode cX7_sum 112 = .ok (.istore 7, 2) := by decide +kernel
theorem dX7_sum_114 : decode cX7_sum 114 = .ok (.iload 7, 2) := by decide +kernel
theorem dX7_sum_116 : decode cX7_sum 116 = .ok (.ifCond .eq 8, 3) := by decide +kernel
theorem dX7_sum_124 : decode cX7_sum 124 = .ok (.iload_n 3, 1) := by decide +kernel
theorem dX7_sum_125 : decode cX7_sum 125 = .ok (.istore_n 3, 1) := by decide +kernel
theorem dX7_sum_126 : decode cX7_sum 126 = .ok (.iload 7, 2) := by decide +kernel
theorem dX7_sum_128 : decode cX7_sum 128 = .ok (.ifCond .ne 7, 3) := by decide +kernel
theorem dX7_sum_131 : decode cX7_sum 131 = .ok (.iload_n 2, 1) := by decide +kernel
theorem dX7_sum_132 : decode cX7_sum 132 = .ok (.ifCond .eq 7, 3) := by decide +kernel
theorem dX7_sum_135 : decode cX7_sum 135 = .ok (.iconst 1, 1) := by decide +kernel
theorem dX7_sum_136 : decode cX7_sum 136 = .ok (.goto 4, 3) := by decide +kernel
theorem dX7_sum_140 : decode cX7_sum 140 = .ok (.istore 4, 2) := by decide +kernel
theorem dX7_sum_142 : decode cX7_sum 142 = .ok (.iload 4, 2) := by decide +kernel
theorem dX7_sum_144 : decode cX7_sum 144 = .ok (.ifCond .eq 13, 3) := by decide +kernel
theorem dX7_sum_147 : decode cX7_sum 147 = .ok (.aload_n 0, 1) := by decide +kernel
theorem dX7_sum_148 : decode cX7_sum 148 = .ok (.dup, 1) := by decide +kernel
theorem dX7_sum_149 : decode cX7_sum 149 = .ok (.getfield 36, 3) := by decide +kernel
theorem dX7_sum_152 : decode cX7_sum 152 = .ok (.iconst 1, 1) := by decide +kernel
theorem dX7_sum_153 : decode cX7_sum 153 = .ok (.iadd, 1) := by decide +kernel
theorem dX7_sum_154 : decode cX7_sum 154 = .ok (.putfield 36, 3) := by decide +kernel
theorem dX7_sum_157 : decode cX7_sum 157 = .ok (.iinc 5 1, 3) := by decide +kernel
theorem dX7_sum_160 : decode cX7_sum 160 = .ok (.goto (-150), 3) := by decide +kernel
theorem dX7_sum_84 : decode cX7_sum 84 = .ok (.iload_n 2, 1) := by decide +kernel
theorem dX7_sum_85 : decode cX7_sum 85 = .ok (.ifCond .ne 8, 3) := by decide +kernel
theorem dX7_sum_59 : decode cX7_sum 59 = .ok (.iload 6, 2) := by decide +kernel
theorem dX7_sum_61 : decode cX7_sum 61 = .ok (.bipush 47, 2) := by decide +kernel
theorem dX7_sum_63 : decode cX7_sum 63 = .ok (.if_icmp .eq 10, 3) := by decide +kernel
theorem dX7_sum_66 : decode cX7_sum 66 = .ok (.iload 6, 2) := by decide +kernel
theorem dX7_sum_68 : decode cX7_sum 68 = .ok (.bipush 37, 2) := by decide +kernel
theorem dX7_sum_70 : decode cX7_sum 70 = .ok (.if_icmp .ne 8, 3) := by decide +kernel
theorem dX7_sum_78 : decode cX7_sum 78 = .ok (.iconst 0, 1) := by decide +kernel
theorem dX7_sum_107 : decode cX7_sum 107 = .ok (.iconst 1, 1) := by decide +kernel
theorem dX7_sum_108 : decode cX7_sum 108 = .ok (.goto 4, 3) := by decide +kernel
theorem dX7_sum_119 : decode cX7_sum 119 = .ok (.iload 6, 2) := by decide +kernel
theorem dX7_sum_121 : decode cX7_sum 121 = .ok (.goto 4, 3) := by decide +kernel
theorem dX7_sum_139 : decode cX7_sum 139 = .ok (.iconst 0, 1) := by decide +kernel
theorem dX7_sum_88 : decode cX7_sum 88 = .ok (.aload_n 0, 1) := by decide +kernel
theorem dX7_sum_89 : decode cX7_sum 89 = .ok (.iload_n 3, 1) := by decide +kernel
theorem dX7_sum_90 : decode cX7_sum 90 = .ok (.invokevirtual 70, 3) := by decide +kernel
theorem dX7_sum_37 : decode cX7_sum 37 = .ok (.aload_n 0, 1) := by decide +kernel
theorem dX7_sum_38 : decode cX7_sum 38 = .ok (.iload_n 2, 1) := by decide +kernel
theorem dX7_sum_39 : decode cX7_sum 39 = .ok (.invokevirtual 70, 3) := by decide +kernel
theorem dX7_sum_31 : decode cX7_sum 31 = .ok (.iconst 0, 1) := by decide +kernel
theorem dX7_sum_32 : decode cX7_sum 32 = .ok (.ireturn, 1) := by decide +kernel
theorem mv_X7_value : MV RX7 yX7_value cX7_value 4 (some .boolean) 1 := ⟨mw_4_39, mp_2_1, mw_1_12, mw_4_40, ⟨rfl, by decide, by decide, by decide +kernel⟩⟩
set_option maxHeartbeats 4000000 in
set_option maxRecDepth 100000 in
theorem cy_X7_sum (l : Launch) (D : va_G) (cA : Nat → ClassId) (L : List Nat) (T : Nat → Nat) (r : Rg) (hG : GR L T r) (hL : L.Nodup) (σ : Sg) (ρ : Lg) (hW : WT L ry T σ) (sz : Nat) (h0 : Nat) (mh0 : h0 ∈ L) (th0 : T h0 = 7) (h1 : Nat) (mh1 : h1 ∈ L) (th1 : T h1 = 9) : Met l yX7_sum (.code yX7_sum cX7_sum 8 (some .boolean) :: wsA) ({ frames := 2, cells := 0, slots := 0, locals := 46 }) (PR D cA L T r σ ρ sz [.ref h0, .ref h1]) (QI D cA L T r ry [(7, 5), (7, 6), (7, 7), (9, 6), (41, 1000)] σ sz (fun x σ1 => (0 ≤ x.toInt ∧ x.toInt ≤ 1))) 0 0 (dm L sz) := by
  refine Met.ofW (cc := cX7_sum) (maxL := 8) (ret := (some .boolean)) (by decide) rfl ?_
  intro p e s m args below meth c s₁ B hml hv
  obtain ⟨rfl, hsz, hP, hK, hN⟩ := hv
  have hx := B.exec
  have hb := B.bytes
  have hr := B.returns
  have hts : ∀ w ∈ wsA, w.before _ s = true := fun w h => atoms_spec (ws := .code yX7_sum cX7_sum 8 (some .boolean) :: wsA) B.pre w (List.mem_cons_of_mem _ h)
  have hown : s.vm.findClass RX7 = some m.cls := findClass_of_methodNamed B.named
  subst hsz
  have hLA : LA (dm L s.heap.size) L := ⟨hL, fun a h => Or.inl h⟩
  have hA : ∀ q : Nat, s.heap.size ≤ q → dm L s.heap.size q := fun q h => Or.inr h
  have hS : va_S (dm L s.heap.size) s.heap s.heap [] := va_S.rf
  have hB : TS D cA L T r ry [(7, 5), (7, 6), (7, 7), (9, 6), (41, 1000)] σ σ ρ s.heap := ⟨hP, hW, FR.rf⟩
  have hl := lv_entry ([.ref h0, .ref h1]) (n := 8) (Nat.le_of_ble_eq_true rfl)
  rw [lg_entry_eq]
  generalize (lg_sl ([.ref h0, .ref h1]) ++ List.replicate (8 - (lg_sl ([.ref h0, .ref h1])).length) Slot.unset).toArray = ls at hl ⊢
  have hl : lv_has ls 8 [(0, .ref h0), (1, .ref h1)] := hl
  refine lv_iconst (v := 0) hx hb dX7_sum_0 (by decide) ?_
  refine lv_istore_n (lv' := [(2, .int 0), (0, .ref h0), (1, .ref h1)]) hx hb dX7_sum_1 rfl hl (by decide) rfl (fun ls hl => ?_)
  refine lv_iconst (v := 0) hx hb dX7_sum_2 (by decide) ?_
  refine lv_istore_n (lv' := [(3, .int 0), (2, .int 0), (0, .ref h0), (1, .ref h1)]) hx hb dX7_sum_3 rfl hl (by decide) rfl (fun ls hl => ?_)
  refine lv_iconst (v := 1) hx hb dX7_sum_4 (by decide) ?_
  refine lv_istore (lv' := [(4, .int 1), (3, .int 0), (2, .int 0), (0, .ref h0), (1, .ref h1)]) hx hb dX7_sum_5 hl (by decide) rfl (fun ls hl => ?_)
  refine lv_iconst (v := 0) hx hb dX7_sum_7 (by decide) ?_
  refine lv_istore (lv' := [(5, .int 0), (4, .int 1), (3, .int 0), (2, .int 0), (0, .ref h0), (1, .ref h1)]) hx hb dX7_sum_8 hl (by decide) rfl (fun ls hl => ?_)
  refine w_loop (α := Int32 × Int32 × Int32 × Int32 × Sg × Lg) (fun (i_1, i_2, i_3, i_4, σ_5, ρ_6) H locs ls => 0 ≤ i_4.toInt ∧ i_4.toInt ≤ 400 ∧ TS D cA L T r ry [(7, 5), (7, 6), (7, 7), (9, 6), (41, 1000)] σ σ_5 ρ_6 H ∧ va_S (dm L s.heap.size) s.heap H locs ∧ lv_has ls 8 [(5, .int i_4), (4, .int i_3), (3, .int i_2), (2, .int i_1), (0, .ref h0), (1, .ref h1)]) (fun (i_1, i_2, i_3, i_4, σ_5, ρ_6) => (400 - i_4.toInt).toNat) ?_ ⟨0, 0, 1, 0, σ, ρ⟩ ⟨(by decide), (by decide), hB, hS, lv_sub hl [0, 1, 2, 3, 4, 5] rfl⟩
  rintro ⟨i_1, i_2, i_3, i_4, σ_5, ρ_6⟩ H locs ls ⟨li_4, ui_4, hB, hS, hl⟩ ih_7
  refine lv_iload hx hb dX7_sum_10 (lv_at hl 1 rfl) ?_
  refine lv_if_eq (tgt := 163) hx hb dX7_sum_12 (by decide) (fun c_8 => ?_) (fun c_8 => ?_)
  · skip
    have uc_8 := i_eq (n := 0) (by decide) c_8
    refine lv_iconst (v := 1) hx hb dX7_sum_163 (by decide) ?_
    exact W.zret (v := 1) hx hb hr rfl (fun t ht hW => ⟨⟨1, (σ_5, ρ_6), rfl, ⟨hB.2.1, hB.2.2, (show 0 ≤ (1 : Int32).toInt ∧ (1 : Int32).toInt ≤ 1 from ⟨by decide, by decide⟩)⟩, (show TP D cA L T r σ_5 ρ_6 t.heap from by rw [ht]; exact hB.1)⟩, hS.F ht⟩) hS.2.2 dX7_sum_164
  · skip
    have uc_8 := i_ne (n := 0) (by decide) c_8
    refine lv_iload hx hb dX7_sum_15 (lv_at hl 0 rfl) ?_
    refine lv_sipush (v := 400) hx hb dX7_sum_17 (by decide) ?_
    refine lv_icmp_ge (tgt := 163) hx hb dX7_sum_20 (by decide) (fun c_9 => ?_) (fun c_9 => ?_)
    · skip
      have uc_9 := i_ge (n := 400) (by decide) c_9
      refine lv_iconst (v := 1) hx hb dX7_sum_163 (by decide) ?_
      exact W.zret (v := 1) hx hb hr rfl (fun t ht hW => ⟨⟨1, (σ_5, ρ_6), rfl, ⟨hB.2.1, hB.2.2, (show 0 ≤ (1 : Int32).toInt ∧ (1 : Int32).toInt ≤ 1 from ⟨by decide, by decide⟩)⟩, (show TP D cA L T r σ_5 ρ_6 t.heap from by rw [ht]; exact hB.1)⟩, hS.F ht⟩) hS.2.2 dX7_sum_164
    · skip
      have uc_9 := i_nge (n := 400) (by decide) c_9
      refine lv_aload_n hx hb dX7_sum_23 rfl (lv_at hl 4 rfl) ?_
      refine lv_aload_n hx hb dX7_sum_24 rfl (lv_at hl 5 rfl) ?_
      refine t_ci (va_runV (As := [.ref h1]) (rest := []) ⟨hx, hb, hml, hown, hts⟩ (cy_X7_value l D cA L T r hG hLA.1 σ_5 ρ_6 hB.2.1 _ h0 mh0 th0 h1 mh1 th1) (cV hts mv_X7_value mw_4_37 rfl rfl ⟨Nat.le_of_ble_eq_true rfl, Nat.le_of_ble_eq_true rfl⟩) (pV hB.1 hK hN mh0 th0 (show shp cA 7 _ _ _ = .inr (7, Fs7 _ _ _) from rfl) rfl) rfl rfl hl.1 rfl (lv_room (Nat.le_of_ble_eq_true rfl)) dX7_sum_25 ⟨Nat.le_of_ble_eq_true rfl, Nat.le_of_ble_eq_true rfl⟩) hLA hA hB hS (by decide) (fun x_12 σ_10 ρ_11 H locs hB fσ_10 pσ_10 hS => ?_)
      obtain ⟨lx_12, ux_12⟩ := pσ_10
      refine lv_if_ne (tgt := 33) hx hb dX7_sum_28 (by decide) (fun c_13 => ?_) (fun c_13 => ?_)
      · skip
        have uc_13 := i_ne (n := 0) (by decide) c_13
        refine lv_iload_n hx hb dX7_sum_33 rfl (lv_at hl 3 rfl) ?_
        refine lv_if_eq (tgt := 42) hx hb dX7_sum_34 (by decide) (fun c_14 => ?_) (fun c_14 => ?_)
        · skip
          have uc_14 := i_eq (n := 0) (by decide) c_14
          refine lv_aload_n hx hb dX7_sum_42 rfl (lv_at hl 5 rfl) ?_
          refine lv_aload_n hx hb dX7_sum_43 rfl (lv_at hl 4 rfl) ?_
          refine t_gi hx hb hts hown hK hB mh0 th0 fi_7_6 rfl mw_2_188 dX7_sum_44 (fun x_15 ex_15 lx_15 ux_15 => ?_)
          refine t_ci (va_runV (As := [.int x_15]) (rest := []) ⟨hx, hb, hml, hown, hts⟩ (cy_X9_kindAt l D cA L T r hG hLA.1 σ_10 ρ_11 hB.2.1 _ h1 mh1 th1 x_15) (cV hts mv_X9_kindAt mw_4_41 rfl rfl ⟨Nat.le_of_ble_eq_true rfl, Nat.le_of_ble_eq_true rfl⟩) (pV hB.1 hK hN mh1 th1 (show shp cA 9 _ _ _ = .inr (9, Fs9 _ _ _) from rfl) rfl) rfl rfl hl.1 rfl (lv_room (Nat.le_of_ble_eq_true rfl)) dX7_sum_47 ⟨Nat.le_of_ble_eq_true rfl, Nat.le_of_ble_eq_true rfl⟩) hLA hA hB hS (by decide) (fun x_18 σ_16 ρ_17 H locs hB fσ_16 pσ_16 hS => ?_)
          have qσ_16 := FR.nil fσ_16
          subst qσ_16
          obtain ⟨lx_18, ux_18⟩ := pσ_16
          refine lv_istore (lv' := [(6, .int x_18), (5, .int i_4), (4, .int i_3), (3, .int i_2), (2, .int i_1), (0, .ref h0), (1, .ref h1)]) hx hb dX7_sum_50 hl (by decide) rfl (fun ls hl => ?_)
          refine lv_iload hx hb dX7_sum_52 (lv_at hl 0 rfl) ?_
          refine lv_bipush (v := 42) hx hb dX7_sum_54 (by decide) ?_
          refine lv_icmp_eq (tgt := 73) hx hb dX7_sum_56 (by decide) (fun c_19 => ?_) (fun c_19 => ?_)
          · skip
            have uc_19 := i_eq (n := 42) (by decide) c_19
            refine lv_iload hx hb dX7_sum_73 (lv_at hl 0 rfl) ?_
            refine lv_goto (tgt := 79) hx hb dX7_sum_75 (by decide) ?_
            refine lv_istore_n (lv' := [(2, .int x_18), (6, .int x_18), (5, .int i_4), (4, .int i_3), (3, .int i_2), (0, .ref h0), (1, .ref h1)]) hx hb dX7_sum_79 rfl hl (by decide) rfl (fun ls hl => ?_)
            refine lv_iload_n hx hb dX7_sum_80 rfl (lv_at hl 4 rfl) ?_
            refine lv_if_eq (tgt := 93) hx hb dX7_sum_81 (by decide) (fun c_20 => ?_) (fun c_20 => ?_)
            · skip
              have uc_20 := i_eq (n := 0) (by decide) c_20
              refine lv_iload hx hb dX7_sum_93 (lv_at hl 1 rfl) ?_
              refine lv_bipush (v := 43) hx hb dX7_sum_95 (by decide) ?_
              refine lv_icmp_eq (tgt := 107) hx hb dX7_sum_97 (by decide) (fun c_21 => ?_) (fun c_21 => ?_)
              · skip
                have uc_21 := i_eq (n := 43) (by decide) c_21
                exfalso; omega
              · skip
                have uc_21 := i_ne (n := 43) (by decide) c_21
                refine lv_iload hx hb dX7_sum_100 (lv_at hl 1 rfl) ?_
                refine lv_bipush (v := 45) hx hb dX7_sum_102 (by decide) ?_
                refine lv_icmp_ne (tgt := 111) hx hb dX7_sum_104 (by decide) (fun c_22 => ?_) (fun c_22 => ?_)
                · skip
                  have uc_22 := i_ne (n := 45) (by decide) c_22
                  refine lv_iconst (v := 0) hx hb dX7_sum_111 (by decide) ?_
                  refine lv_istore (lv' := [(7, .int 0), (2, .int x_18), (6, .int x_18), (5, .int i_4), (4, .int i_3), (3, .int i_2), (0, .ref h0), (1, .ref h1)]) hx hb dX7_sum_112 hl (by decide) rfl (fun ls hl => ?_)
                  refine lv_iload hx hb dX7_sum_114 (lv_at hl 0 rfl) ?_
                  refine lv_if_eq (tgt := 124) hx hb dX7_sum_116 (by decide) (fun _ => ?_) (fun c9 => absurd (by decide) c9)
                  refine lv_iload_n hx hb dX7_sum_124 rfl (lv_at hl 5 rfl) ?_
                  refine lv_istore_n (lv' := [(3, .int i_2), (7, .int 0), (2, .int x_18), (6, .int x_18), (5, .int i_4), (4, .int i_3), (0, .ref h0), (1, .ref h1)]) hx hb dX7_sum_125 rfl hl (by decide) rfl (fun ls hl => ?_)
                  refine lv_iload hx hb dX7_sum_126 (lv_at hl 1 rfl) ?_
                  refine lv_if_ne (tgt := 135) hx hb dX7_sum_128 (by decide) (fun c9 => absurd (by decide) c9) (fun _ => ?_)
                  refine lv_iload_n hx hb dX7_sum_131 rfl (lv_at hl 2 rfl) ?_
                  refine lv_if_eq (tgt := 139) hx hb dX7_sum_132 (by decide) (fun c_23 => ?_) (fun c_23 => ?_)
                  · skip
                    have uc_23 := i_eq (n := 0) (by decide) c_23
                    exfalso; omega
                  · skip
                    have uc_23 := i_ne (n := 0) (by decide) c_23
                    refine lv_iconst (v := 1) hx hb dX7_sum_135 (by decide) ?_
                    refine lv_goto (tgt := 140) hx hb dX7_sum_136 (by decide) ?_
                    refine lv_istore (lv' := [(4, .int 1), (3, .int i_2), (7, .int 0), (2, .int x_18), (6, .int x_18), (5, .int i_4), (0, .ref h0), (1, .ref h1)]) hx hb dX7_sum_140 hl (by decide) rfl (fun ls hl => ?_)
                    refine lv_iload hx hb dX7_sum_142 (lv_at hl 0 rfl) ?_
                    refine lv_if_eq (tgt := 157) hx hb dX7_sum_144 (by decide) (fun c9 => absurd c9 (by decide)) (fun _ => ?_)
                    refine lv_aload_n hx hb dX7_sum_147 rfl (lv_at hl 6 rfl) ?_
                    refine lv_dup hx hb dX7_sum_148 rfl ?_
                    refine t_gv hx hb hts hown hK hB mh0 th0 fi_7_6 ex_15.symm mw_2_188 dX7_sum_149 ?_
                    refine lv_iconst (v := 1) hx hb dX7_sum_152 (by decide) ?_
                    refine lv_iadd hx hb dX7_sum_153 ?_
                    refine lv_topi (fun x_24 ex_24 => ?_)
                    refine t_pi hx hb hts hown hK hLA hB hS mh0 th0 fi_7_6 rfl rfl rfl (i_lo _) (i_hi _) (Or.inl (by decide)) mw_2_188 dX7_sum_154 (fun H locs σ_25 eσ_25 hB hS => ?_)
                    have k_26 : σ_25 h0 6 = x_24 := by rw [eσ_25]; exact up2_same _ _ _ _
                    obtain ⟨x_27, ex_27⟩ : ∃ y : Int32, y = i_4 + 1 := ⟨_, rfl⟩
                    have vx_27 := b_add (rfl : i_4.toInt = _) (by decide : (1 : Int32).toInt = 1) ex_27 (by omega) (by omega)
                    refine lv_iinc (v := x_27) (lv' := [(5, .int x_27), (4, .int 1), (3, .int i_2), (7, .int 0), (2, .int x_18), (6, .int x_18), (0, .ref h0), (1, .ref h1)]) hx hb dX7_sum_157 hl (k := 5) rfl (by rw [ex_27]; rfl) (by decide) rfl (fun ls hl => ?_)
                    refine lv_goto (tgt := 10) hx hb dX7_sum_160 (by decide) ?_
                    exact ih_7 ⟨x_18, i_2, 1, x_27, σ_25, ρ_17⟩ _ _ _ ⟨(by omega), (by omega), hB, hS, lv_sub hl [0, 1, 2, 4, 6, 7] rfl⟩ (by show (400 - x_27.toInt).toNat < (400 - i_4.toInt).toNat; omega)
                · skip
                  have uc_22 := i_eq (n := 45) (by decide) c_22
                  exfalso; omega
            · skip
              have uc_20 := i_ne (n := 0) (by decide) c_20
              refine lv_iload_n hx hb dX7_sum_84 rfl (lv_at hl 0 rfl) ?_
              refine lv_if_ne (tgt := 93) hx hb dX7_sum_85 (by decide) (fun c_28 => ?_) (fun c_28 => ?_)
              · skip
                have uc_28 := i_ne (n := 0) (by decide) c_28
                refine lv_iload hx hb dX7_sum_93 (lv_at hl 1 rfl) ?_
                refine lv_bipush (v := 43) hx hb dX7_sum_95 (by decide) ?_
                refine lv_icmp_eq (tgt := 107) hx hb dX7_sum_97 (by decide) (fun c_29 => ?_) (fun c_29 => ?_)
                · skip
                  have uc_29 := i_eq (n := 43) (by decide) c_29
                  exfalso; omega
                · skip
                  have uc_29 := i_ne (n := 43) (by decide) c_29
                  refine lv_iload hx hb dX7_sum_100 (lv_at hl 1 rfl) ?_
                  refine lv_bipush (v := 45) hx hb dX7_sum_102 (by decide) ?_
                  refine lv_icmp_ne (tgt := 111) hx hb dX7_sum_104 (by decide) (fun c_30 => ?_) (fun c_30 => ?_)
                  · skip
                    have uc_30 := i_ne (n := 45) (by decide) c_30
                    refine lv_iconst (v := 0) hx hb dX7_sum_111 (by decide) ?_
                    refine lv_istore (lv' := [(7, .int 0), (2, .int x_18), (6, .int x_18), (5, .int i_4), (4, .int i_3), (3, .int i_2), (0, .ref h0), (1, .ref h1)]) hx hb dX7_sum_112 hl (by decide) rfl (fun ls hl => ?_)
                    refine lv_iload hx hb dX7_sum_114 (lv_at hl 0 rfl) ?_
                    refine lv_if_eq (tgt := 124) hx hb dX7_sum_116 (by decide) (fun _ => ?_) (fun c9 => absurd (by decide) c9)
                    refine lv_iload_n hx hb dX7_sum_124 rfl (lv_at hl 5 rfl) ?_
                    refine lv_istore_n (lv' := [(3, .int i_2), (7, .int 0), (2, .int x_18), (6, .int x_18), (5, .int i_4), (4, .int i_3), (0, .ref h0), (1, .ref h1)]) hx hb dX7_sum_125 rfl hl (by decide) rfl (fun ls hl => ?_)
                    refine lv_iload hx hb dX7_sum_126 (lv_at hl 1 rfl) ?_
                    refine lv_if_ne (tgt := 135) hx hb dX7_sum_128 (by decide) (fun c9 => absurd (by decide) c9) (fun _ => ?_)
                    refine lv_iload_n hx hb dX7_sum_131 rfl (lv_at hl 2 rfl) ?_
                    refine lv_if_eq (tgt := 139) hx hb dX7_sum_132 (by decide) (fun c_31 => ?_) (fun c_31 => ?_)
                    · skip
                      have uc_31 := i_eq (n := 0) (by decide) c_31
                      exfalso; omega
                    · skip
                      have uc_31 := i_ne (n := 0) (by decide) c_31
                      refine lv_iconst (v := 1) hx hb dX7_sum_135 (by decide) ?_
                      refine lv_goto (tgt := 140) hx hb dX7_sum_136 (by decide) ?_
                      refine lv_istore (lv' := [(4, .int 1), (3, .int i_2), (7, .int 0), (2, .int x_18), (6, .int x_18), (5, .int i_4), (0, .ref h0), (1, .ref h1)]) hx hb dX7_sum_140 hl (by decide) rfl (fun ls hl => ?_)
                      refine lv_iload hx hb dX7_sum_142 (lv_at hl 0 rfl) ?_
                      refine lv_if_eq (tgt := 157) hx hb dX7_sum_144 (by decide) (fun c9 => absurd c9 (by decide)) (fun _ => ?_)
                      refine lv_aload_n hx hb dX7_sum_147 rfl (lv_at hl 6 rfl) ?_
                      refine lv_dup hx hb dX7_sum_148 rfl ?_
                      refine t_gv hx hb hts hown hK hB mh0 th0 fi_7_6 ex_15.symm mw_2_188 dX7_sum_149 ?_
                      refine lv_iconst (v := 1) hx hb dX7_sum_152 (by decide) ?_
                      refine lv_iadd hx hb dX7_sum_153 ?_
                      refine lv_topi (fun x_32 ex_32 => ?_)
                      refine t_pi hx hb hts hown hK hLA hB hS mh0 th0 fi_7_6 rfl rfl rfl (i_lo _) (i_hi _) (Or.inl (by decide)) mw_2_188 dX7_sum_154 (fun H locs σ_33 eσ_33 hB hS => ?_)
                      have k_34 : σ_33 h0 6 = x_32 := by rw [eσ_33]; exact up2_same _ _ _ _
                      obtain ⟨x_35, ex_35⟩ : ∃ y : Int32, y = i_4 + 1 := ⟨_, rfl⟩
                      have vx_35 := b_add (rfl : i_4.toInt = _) (by decide : (1 : Int32).toInt = 1) ex_35 (by omega) (by omega)
                      refine lv_iinc (v := x_35) (lv' := [(5, .int x_35), (4, .int 1), (3, .int i_2), (7, .int 0), (2, .int x_18), (6, .int x_18), (0, .ref h0), (1, .ref h1)]) hx hb dX7_sum_157 hl (k := 5) rfl (by rw [ex_35]; rfl) (by decide) rfl (fun ls hl => ?_)
                      refine lv_goto (tgt := 10) hx hb dX7_sum_160 (by decide) ?_
                      exact ih_7 ⟨x_18, i_2, 1, x_35, σ_33, ρ_17⟩ _ _ _ ⟨(by omega), (by omega), hB, hS, lv_sub hl [0, 1, 2, 4, 6, 7] rfl⟩ (by show (400 - x_35.toInt).toNat < (400 - i_4.toInt).toNat; omega)
                  · skip
                    have uc_30 := i_eq (n := 45) (by decide) c_30
                    exfalso; omega
              · skip
                have uc_28 := i_eq (n := 0) (by decide) c_28
                exfalso; omega
          · skip
            have uc_19 := i_ne (n := 42) (by decide) c_19
            refine lv_iload hx hb dX7_sum_59 (lv_at hl 0 rfl) ?_
            refine lv_bipush (v := 47) hx hb dX7_sum_61 (by decide) ?_
            refine lv_icmp_eq (tgt := 73) hx hb dX7_sum_63 (by decide) (fun c_36 => ?_) (fun c_36 => ?_)
            · skip
              have uc_36 := i_eq (n := 47) (by decide) c_36
              refine lv_iload hx hb dX7_sum_73 (lv_at hl 0 rfl) ?_
              refine lv_goto (tgt := 79) hx hb dX7_sum_75 (by decide) ?_
              refine lv_istore_n (lv' := [(2, .int x_18), (6, .int x_18), (5, .int i_4), (4, .int i_3), (3, .int i_2), (0, .ref h0), (1, .ref h1)]) hx hb dX7_sum_79 rfl hl (by decide) rfl (fun ls hl => ?_)
              refine lv_iload_n hx hb dX7_sum_80 rfl (lv_at hl 4 rfl) ?_
              refine lv_if_eq (tgt := 93) hx hb dX7_sum_81 (by decide) (fun c_37 => ?_) (fun c_37 => ?_)
              · skip
                have uc_37 := i_eq (n := 0) (by decide) c_37
                refine lv_iload hx hb dX7_sum_93 (lv_at hl 1 rfl) ?_
                refine lv_bipush (v := 43) hx hb dX7_sum_95 (by decide) ?_
                refine lv_icmp_eq (tgt := 107) hx hb dX7_sum_97 (by decide) (fun c_38 => ?_) (fun c_38 => ?_)
                · skip
                  have uc_38 := i_eq (n := 43) (by decide) c_38
                  exfalso; omega
                · skip
                  have uc_38 := i_ne (n := 43) (by decide) c_38
                  refine lv_iload hx hb dX7_sum_100 (lv_at hl 1 rfl) ?_
                  refine lv_bipush (v := 45) hx hb dX7_sum_102 (by decide) ?_
                  refine lv_icmp_ne (tgt := 111) hx hb dX7_sum_104 (by decide) (fun c_39 => ?_) (fun c_39 => ?_)
                  · skip
                    have uc_39 := i_ne (n := 45) (by decide) c_39
                    refine lv_iconst (v := 0) hx hb dX7_sum_111 (by decide) ?_
                    refine lv_istore (lv' := [(7, .int 0), (2, .int x_18), (6, .int x_18), (5, .int i_4), (4, .int i_3), (3, .int i_2), (0, .ref h0), (1, .ref h1)]) hx hb dX7_sum_112 hl (by decide) rfl (fun ls hl => ?_)
                    refine lv_iload hx hb dX7_sum_114 (lv_at hl 0 rfl) ?_
                    refine lv_if_eq (tgt := 124) hx hb dX7_sum_116 (by decide) (fun _ => ?_) (fun c9 => absurd (by decide) c9)
                    refine lv_iload_n hx hb dX7_sum_124 rfl (lv_at hl 5 rfl) ?_
                    refine lv_istore_n (lv' := [(3, .int i_2), (7, .int 0), (2, .int x_18), (6, .int x_18), (5, .int i_4), (4, .int i_3), (0, .ref h0), (1, .ref h1)]) hx hb dX7_sum_125 rfl hl (by decide) rfl (fun ls hl => ?_)
                    refine lv_iload hx hb dX7_sum_126 (lv_at hl 1 rfl) ?_
                    refine lv_if_ne (tgt := 135) hx hb dX7_sum_128 (by decide) (fun c9 => absurd (by decide) c9) (fun _ => ?_)
                    refine lv_iload_n hx hb dX7_sum_131 rfl (lv_at hl 2 rfl) ?_
                    refine lv_if_eq (tgt := 139) hx hb dX7_sum_132 (by decide) (fun c_40 => ?_) (fun c_40 => ?_)
                    · skip
                      have uc_40 := i_eq (n := 0) (by decide) c_40
                      exfalso; omega
                    · skip
                      have uc_40 := i_ne (n := 0) (by decide) c_40
                      refine lv_iconst (v := 1) hx hb dX7_sum_135 (by decide) ?_
                      refine lv_goto (tgt := 140) hx hb dX7_sum_136 (by decide) ?_
                      refine lv_istore (lv' := [(4, .int 1), (3, .int i_2), (7, .int 0), (2, .int x_18), (6, .int x_18), (5, .int i_4), (0, .ref h0), (1, .ref h1)]) hx hb dX7_sum_140 hl (by decide) rfl (fun ls hl => ?_)
                      refine lv_iload hx hb dX7_sum_142 (lv_at hl 0 rfl) ?_
                      refine lv_if_eq (tgt := 157) hx hb dX7_sum_144 (by decide) (fun c9 => absurd c9 (by decide)) (fun _ => ?_)
                      refine lv_aload_n hx hb dX7_sum_147 rfl (lv_at hl 6 rfl) ?_
                      refine lv_dup hx hb dX7_sum_148 rfl ?_
                      refine t_gv hx hb hts hown hK hB mh0 th0 fi_7_6 ex_15.symm mw_2_188 dX7_sum_149 ?_
                      refine lv_iconst (v := 1) hx hb dX7_sum_152 (by decide) ?_
                      refine lv_iadd hx hb dX7_sum_153 ?_
                      refine lv_topi (fun x_41 ex_41 => ?_)
                      refine t_pi hx hb hts hown hK hLA hB hS mh0 th0 fi_7_6 rfl rfl rfl (i_lo _) (i_hi _) (Or.inl (by decide)) mw_2_188 dX7_sum_154 (fun H locs σ_42 eσ_42 hB hS => ?_)
                      have k_43 : σ_42 h0 6 = x_41 := by rw [eσ_42]; exact up2_same _ _ _ _
                      obtain ⟨x_44, ex_44⟩ : ∃ y : Int32, y = i_4 + 1 := ⟨_, rfl⟩
                      have vx_44 := b_add (rfl : i_4.toInt = _) (by decide : (1 : Int32).toInt = 1) ex_44 (by omega) (by omega)
                      refine lv_iinc (v := x_44) (lv' := [(5, .int x_44), (4, .int 1), (3, .int i_2), (7, .int 0), (2, .int x_18), (6, .int x_18), (0, .ref h0), (1, .ref h1)]) hx hb dX7_sum_157 hl (k := 5) rfl (by rw [ex_44]; rfl) (by decide) rfl (fun ls hl => ?_)
                      refine lv_goto (tgt := 10) hx hb dX7_sum_160 (by decide) ?_
                      exact ih_7 ⟨x_18, i_2, 1, x_44, σ_42, ρ_17⟩ _ _ _ ⟨(by omega), (by omega), hB, hS, lv_sub hl [0, 1, 2, 4, 6, 7] rfl⟩ (by show (400 - x_44.toInt).toNat < (400 - i_4.toInt).toNat; omega)
                  · skip
                    have uc_39 := i_eq (n := 45) (by decide) c_39
                    exfalso; omega
              · skip
                have uc_37 := i_ne (n := 0) (by decide) c_37
                refine lv_iload_n hx hb dX7_sum_84 rfl (lv_at hl 0 rfl) ?_
                refine lv_if_ne (tgt := 93) hx hb dX7_sum_85 (by decide) (fun c_45 => ?_) (fun c_45 => ?_)
                · skip
                  have uc_45 := i_ne (n := 0) (by decide) c_45
                  refine lv_iload hx hb dX7_sum_93 (lv_at hl 1 rfl) ?_
                  refine lv_bipush (v := 43) hx hb dX7_sum_95 (by decide) ?_
                  refine lv_icmp_eq (tgt := 107) hx hb dX7_sum_97 (by decide) (fun c_46 => ?_) (fun c_46 => ?_)
                  · skip
                    have uc_46 := i_eq (n := 43) (by decide) c_46
                    exfalso; omega
                  · skip
                    have uc_46 := i_ne (n := 43) (by decide) c_46
                    refine lv_iload hx hb dX7_sum_100 (lv_at hl 1 rfl) ?_
                    refine lv_bipush (v := 45) hx hb dX7_sum_102 (by decide) ?_
                    refine lv_icmp_ne (tgt := 111) hx hb dX7_sum_104 (by decide) (fun c_47 => ?_) (fun c_47 => ?_)
                    · skip
                      have uc_47 := i_ne (n := 45) (by decide) c_47
                      refine lv_iconst (v := 0) hx hb dX7_sum_111 (by decide) ?_
                      refine lv_istore (lv' := [(7, .int 0), (2, .int x_18), (6, .int x_18), (5, .int i_4), (4, .int i_3), (3, .int i_2), (0, .ref h0), (1, .ref h1)]) hx hb dX7_sum_112 hl (by decide) rfl (fun ls hl => ?_)
                      refine lv_iload hx hb dX7_sum_114 (lv_at hl 0 rfl) ?_
                      refine lv_if_eq (tgt := 124) hx hb dX7_sum_116 (by decide) (fun _ => ?_) (fun c9 => absurd (by decide) c9)
                      refine lv_iload_n hx hb dX7_sum_124 rfl (lv_at hl 5 rfl) ?_
                      refine lv_istore_n (lv' := [(3, .int i_2), (7, .int 0), (2, .int x_18), (6, .int x_18), (5, .int i_4), (4, .int i_3), (0, .ref h0), (1, .ref h1)]) hx hb dX7_sum_125 rfl hl (by decide) rfl (fun ls hl => ?_)
                      refine lv_iload hx hb dX7_sum_126 (lv_at hl 1 rfl) ?_
                      refine lv_if_ne (tgt := 135) hx hb dX7_sum_128 (by decide) (fun c9 => absurd (by decide) c9) (fun _ => ?_)
                      refine lv_iload_n hx hb dX7_sum_131 rfl (lv_at hl 2 rfl) ?_
                      refine lv_if_eq (tgt := 139) hx hb dX7_sum_132 (by decide) (fun c_48 => ?_) (fun c_48 => ?_)
                      · skip
                        have uc_48 := i_eq (n := 0) (by decide) c_48
                        exfalso; omega
                      · skip
                        have uc_48 := i_ne (n := 0) (by decide) c_48
                        refine lv_iconst (v := 1) hx hb dX7_sum_135 (by decide) ?_
                        refine lv_goto (tgt := 140) hx hb dX7_sum_136 (by decide) ?_
                        refine lv_istore (lv' := [(4, .int 1), (3, .int i_2), (7, .int 0), (2, .int x_18), (6, .int x_18), (5, .int i_4), (0, .ref h0), (1, .ref h1)]) hx hb dX7_sum_140 hl (by decide) rfl (fun ls hl => ?_)
                        refine lv_iload hx hb dX7_sum_142 (lv_at hl 0 rfl) ?_
                        refine lv_if_eq (tgt := 157) hx hb dX7_sum_144 (by decide) (fun c9 => absurd c9 (by decide)) (fun _ => ?_)
                        refine lv_aload_n hx hb dX7_sum_147 rfl (lv_at hl 6 rfl) ?_
                        refine lv_dup hx hb dX7_sum_148 rfl ?_
                        refine t_gv hx hb hts hown hK hB mh0 th0 fi_7_6 ex_15.symm mw_2_188 dX7_sum_149 ?_
                        refine lv_iconst (v := 1) hx hb dX7_sum_152 (by decide) ?_
                        refine lv_iadd hx hb dX7_sum_153 ?_
                        refine lv_topi (fun x_49 ex_49 => ?_)
                        refine t_pi hx hb hts hown hK hLA hB hS mh0 th0 fi_7_6 rfl rfl rfl (i_lo _) (i_hi _) (Or.inl (by decide)) mw_2_188 dX7_sum_154 (fun H locs σ_50 eσ_50 hB hS => ?_)
                        have k_51 : σ_50 h0 6 = x_49 := by rw [eσ_50]; exact up2_same _ _ _ _
                        obtain ⟨x_52, ex_52⟩ : ∃ y : Int32, y = i_4 + 1 := ⟨_, rfl⟩
                        have vx_52 := b_add (rfl : i_4.toInt = _) (by decide : (1 : Int32).toInt = 1) ex_52 (by omega) (by omega)
                        refine lv_iinc (v := x_52) (lv' := [(5, .int x_52), (4, .int 1), (3, .int i_2), (7, .int 0), (2, .int x_18), (6, .int x_18), (0, .ref h0), (1, .ref h1)]) hx hb dX7_sum_157 hl (k := 5) rfl (by rw [ex_52]; rfl) (by decide) rfl (fun ls hl => ?_)
                        refine lv_goto (tgt := 10) hx hb dX7_sum_160 (by decide) ?_
                        exact ih_7 ⟨x_18, i_2, 1, x_52, σ_50, ρ_17⟩ _ _ _ ⟨(by omega), (by omega), hB, hS, lv_sub hl [0, 1, 2, 4, 6, 7] rfl⟩ (by show (400 - x_52.toInt).toNat < (400 - i_4.toInt).toNat; omega)
                    · skip
                      have uc_47 := i_eq (n := 45) (by decide) c_47
                      exfalso; omega
                · skip
                  have uc_45 := i_eq (n := 0) (by decide) c_45
                  exfalso; omega
            · skip
              have uc_36 := i_ne (n := 47) (by decide) c_36
              refine lv_iload hx hb dX7_sum_66 (lv_at hl 0 rfl) ?_
              refine lv_bipush (v := 37) hx hb dX7_sum_68 (by decide) ?_
              refine lv_icmp_ne (tgt := 78) hx hb dX7_sum_70 (by decide) (fun c_53 => ?_) (fun c_53 => ?_)
              · skip
                have uc_53 := i_ne (n := 37) (by decide) c_53
                refine lv_iconst (v := 0) hx hb dX7_sum_78 (by decide) ?_
                refine lv_istore_n (lv' := [(2, .int 0), (6, .int x_18), (5, .int i_4), (4, .int i_3), (3, .int i_2), (0, .ref h0), (1, .ref h1)]) hx hb dX7_sum_79 rfl hl (by decide) rfl (fun ls hl => ?_)
                refine lv_iload_n hx hb dX7_sum_80 rfl (lv_at hl 4 rfl) ?_
                refine lv_if_eq (tgt := 93) hx hb dX7_sum_81 (by decide) (fun c_54 => ?_) (fun c_54 => ?_)
                · skip
                  have uc_54 := i_eq (n := 0) (by decide) c_54
                  refine lv_iload hx hb dX7_sum_93 (lv_at hl 1 rfl) ?_
                  refine lv_bipush (v := 43) hx hb dX7_sum_95 (by decide) ?_
                  refine lv_icmp_eq (tgt := 107) hx hb dX7_sum_97 (by decide) (fun c_55 => ?_) (fun c_55 => ?_)
                  · skip
                    have uc_55 := i_eq (n := 43) (by decide) c_55
                    refine lv_iconst (v := 1) hx hb dX7_sum_107 (by decide) ?_
                    refine lv_goto (tgt := 112) hx hb dX7_sum_108 (by decide) ?_
                    refine lv_istore (lv' := [(7, .int 1), (2, .int 0), (6, .int x_18), (5, .int i_4), (4, .int i_3), (3, .int i_2), (0, .ref h0), (1, .ref h1)]) hx hb dX7_sum_112 hl (by decide) rfl (fun ls hl => ?_)
                    refine lv_iload hx hb dX7_sum_114 (lv_at hl 0 rfl) ?_
                    refine lv_if_eq (tgt := 124) hx hb dX7_sum_116 (by decide) (fun c9 => absurd c9 (by decide)) (fun _ => ?_)
                    refine lv_iload hx hb dX7_sum_119 (lv_at hl 2 rfl) ?_
                    refine lv_goto (tgt := 125) hx hb dX7_sum_121 (by decide) ?_
                    refine lv_istore_n (lv' := [(3, .int x_18), (7, .int 1), (2, .int 0), (6, .int x_18), (5, .int i_4), (4, .int i_3), (0, .ref h0), (1, .ref h1)]) hx hb dX7_sum_125 rfl hl (by decide) rfl (fun ls hl => ?_)
                    refine lv_iload hx hb dX7_sum_126 (lv_at hl 1 rfl) ?_
                    refine lv_if_ne (tgt := 135) hx hb dX7_sum_128 (by decide) (fun _ => ?_) (fun c9 => absurd c9 (by decide))
                    refine lv_iconst (v := 1) hx hb dX7_sum_135 (by decide) ?_
                    refine lv_goto (tgt := 140) hx hb dX7_sum_136 (by decide) ?_
                    refine lv_istore (lv' := [(4, .int 1), (3, .int x_18), (7, .int 1), (2, .int 0), (6, .int x_18), (5, .int i_4), (0, .ref h0), (1, .ref h1)]) hx hb dX7_sum_140 hl (by decide) rfl (fun ls hl => ?_)
                    refine lv_iload hx hb dX7_sum_142 (lv_at hl 0 rfl) ?_
                    refine lv_if_eq (tgt := 157) hx hb dX7_sum_144 (by decide) (fun c9 => absurd c9 (by decide)) (fun _ => ?_)
                    refine lv_aload_n hx hb dX7_sum_147 rfl (lv_at hl 6 rfl) ?_
                    refine lv_dup hx hb dX7_sum_148 rfl ?_
                    refine t_gv hx hb hts hown hK hB mh0 th0 fi_7_6 ex_15.symm mw_2_188 dX7_sum_149 ?_
                    refine lv_iconst (v := 1) hx hb dX7_sum_152 (by decide) ?_
                    refine lv_iadd hx hb dX7_sum_153 ?_
                    refine lv_topi (fun x_56 ex_56 => ?_)
                    refine t_pi hx hb hts hown hK hLA hB hS mh0 th0 fi_7_6 rfl rfl rfl (i_lo _) (i_hi _) (Or.inl (by decide)) mw_2_188 dX7_sum_154 (fun H locs σ_57 eσ_57 hB hS => ?_)
                    have k_58 : σ_57 h0 6 = x_56 := by rw [eσ_57]; exact up2_same _ _ _ _
                    obtain ⟨x_59, ex_59⟩ : ∃ y : Int32, y = i_4 + 1 := ⟨_, rfl⟩
                    have vx_59 := b_add (rfl : i_4.toInt = _) (by decide : (1 : Int32).toInt = 1) ex_59 (by omega) (by omega)
                    refine lv_iinc (v := x_59) (lv' := [(5, .int x_59), (4, .int 1), (3, .int x_18), (7, .int 1), (2, .int 0), (6, .int x_18), (0, .ref h0), (1, .ref h1)]) hx hb dX7_sum_157 hl (k := 5) rfl (by rw [ex_59]; rfl) (by decide) rfl (fun ls hl => ?_)
                    refine lv_goto (tgt := 10) hx hb dX7_sum_160 (by decide) ?_
                    exact ih_7 ⟨0, x_18, 1, x_59, σ_57, ρ_17⟩ _ _ _ ⟨(by omega), (by omega), hB, hS, lv_sub hl [0, 1, 2, 4, 6, 7] rfl⟩ (by show (400 - x_59.toInt).toNat < (400 - i_4.toInt).toNat; omega)
                  · skip
                    have uc_55 := i_ne (n := 43) (by decide) c_55
                    refine lv_iload hx hb dX7_sum_100 (lv_at hl 1 rfl) ?_
                    refine lv_bipush (v := 45) hx hb dX7_sum_102 (by decide) ?_
                    refine lv_icmp_ne (tgt := 111) hx hb dX7_sum_104 (by decide) (fun c_60 => ?_) (fun c_60 => ?_)
                    · skip
                      have uc_60 := i_ne (n := 45) (by decide) c_60
                      refine lv_iconst (v := 0) hx hb dX7_sum_111 (by decide) ?_
                      refine lv_istore (lv' := [(7, .int 0), (2, .int 0), (6, .int x_18), (5, .int i_4), (4, .int i_3), (3, .int i_2), (0, .ref h0), (1, .ref h1)]) hx hb dX7_sum_112 hl (by decide) rfl (fun ls hl => ?_)
                      refine lv_iload hx hb dX7_sum_114 (lv_at hl 0 rfl) ?_
                      refine lv_if_eq (tgt := 124) hx hb dX7_sum_116 (by decide) (fun _ => ?_) (fun c9 => absurd (by decide) c9)
                      refine lv_iload_n hx hb dX7_sum_124 rfl (lv_at hl 5 rfl) ?_
                      refine lv_istore_n (lv' := [(3, .int i_2), (7, .int 0), (2, .int 0), (6, .int x_18), (5, .int i_4), (4, .int i_3), (0, .ref h0), (1, .ref h1)]) hx hb dX7_sum_125 rfl hl (by decide) rfl (fun ls hl => ?_)
                      refine lv_iload hx hb dX7_sum_126 (lv_at hl 1 rfl) ?_
                      refine lv_if_ne (tgt := 135) hx hb dX7_sum_128 (by decide) (fun c9 => absurd (by decide) c9) (fun _ => ?_)
                      refine lv_iload_n hx hb dX7_sum_131 rfl (lv_at hl 2 rfl) ?_
                      refine lv_if_eq (tgt := 139) hx hb dX7_sum_132 (by decide) (fun _ => ?_) (fun c9 => absurd (by decide) c9)
                      refine lv_iconst (v := 0) hx hb dX7_sum_139 (by decide) ?_
                      refine lv_istore (lv' := [(4, .int 0), (3, .int i_2), (7, .int 0), (2, .int 0), (6, .int x_18), (5, .int i_4), (0, .ref h0), (1, .ref h1)]) hx hb dX7_sum_140 hl (by decide) rfl (fun ls hl => ?_)
                      refine lv_iload hx hb dX7_sum_142 (lv_at hl 0 rfl) ?_
                      refine lv_if_eq (tgt := 157) hx hb dX7_sum_144 (by decide) (fun _ => ?_) (fun c9 => absurd (by decide) c9)
                      obtain ⟨x_61, ex_61⟩ : ∃ y : Int32, y = i_4 + 1 := ⟨_, rfl⟩
                      have vx_61 := b_add (rfl : i_4.toInt = _) (by decide : (1 : Int32).toInt = 1) ex_61 (by omega) (by omega)
                      refine lv_iinc (v := x_61) (lv' := [(5, .int x_61), (4, .int 0), (3, .int i_2), (7, .int 0), (2, .int 0), (6, .int x_18), (0, .ref h0), (1, .ref h1)]) hx hb dX7_sum_157 hl (k := 5) rfl (by rw [ex_61]; rfl) (by decide) rfl (fun ls hl => ?_)
                      refine lv_goto (tgt := 10) hx hb dX7_sum_160 (by decide) ?_
                      exact ih_7 ⟨0, i_2, 0, x_61, σ_10, ρ_17⟩ _ _ _ ⟨(by omega), (by omega), hB, hS, lv_sub hl [0, 1, 2, 4, 6, 7] rfl⟩ (by show (400 - x_61.toInt).toNat < (400 - i_4.toInt).toNat; omega)
                    · skip
                      have uc_60 := i_eq (n := 45) (by decide) c_60
                      refine lv_iconst (v := 1) hx hb dX7_sum_107 (by decide) ?_
                      refine lv_goto (tgt := 112) hx hb dX7_sum_108 (by decide) ?_
                      refine lv_istore (lv' := [(7, .int 1), (2, .int 0), (6, .int x_18), (5, .int i_4), (4, .int i_3), (3, .int i_2), (0, .ref h0), (1, .ref h1)]) hx hb dX7_sum_112 hl (by decide) rfl (fun ls hl => ?_)
                      refine lv_iload hx hb dX7_sum_114 (lv_at hl 0 rfl) ?_
                      refine lv_if_eq (tgt := 124) hx hb dX7_sum_116 (by decide) (fun c9 => absurd c9 (by decide)) (fun _ => ?_)
                      refine lv_iload hx hb dX7_sum_119 (lv_at hl 2 rfl) ?_
                      refine lv_goto (tgt := 125) hx hb dX7_sum_121 (by decide) ?_
                      refine lv_istore_n (lv' := [(3, .int x_18), (7, .int 1), (2, .int 0), (6, .int x_18), (5, .int i_4), (4, .int i_3), (0, .ref h0), (1, .ref h1)]) hx hb dX7_sum_125 rfl hl (by decide) rfl (fun ls hl => ?_)
                      refine lv_iload hx hb dX7_sum_126 (lv_at hl 1 rfl) ?_
                      refine lv_if_ne (tgt := 135) hx hb dX7_sum_128 (by decide) (fun _ => ?_) (fun c9 => absurd c9 (by decide))
                      refine lv_iconst (v := 1) hx hb dX7_sum_135 (by decide) ?_
                      refine lv_goto (tgt := 140) hx hb dX7_sum_136 (by decide) ?_
                      refine lv_istore (lv' := [(4, .int 1), (3, .int x_18), (7, .int 1), (2, .int 0), (6, .int x_18), (5, .int i_4), (0, .ref h0), (1, .ref h1)]) hx hb dX7_sum_140 hl (by decide) rfl (fun ls hl => ?_)
                      refine lv_iload hx hb dX7_sum_142 (lv_at hl 0 rfl) ?_
                      refine lv_if_eq (tgt := 157) hx hb dX7_sum_144 (by decide) (fun c9 => absurd c9 (by decide)) (fun _ => ?_)
                      refine lv_aload_n hx hb dX7_sum_147 rfl (lv_at hl 6 rfl) ?_
                      refine lv_dup hx hb dX7_sum_148 rfl ?_
                      refine t_gv hx hb hts hown hK hB mh0 th0 fi_7_6 ex_15.symm mw_2_188 dX7_sum_149 ?_
                      refine lv_iconst (v := 1) hx hb dX7_sum_152 (by decide) ?_
                      refine lv_iadd hx hb dX7_sum_153 ?_
                      refine lv_topi (fun x_62 ex_62 => ?_)
                      refine t_pi hx hb hts hown hK hLA hB hS mh0 th0 fi_7_6 rfl rfl rfl (i_lo _) (i_hi _) (Or.inl (by decide)) mw_2_188 dX7_sum_154 (fun H locs σ_63 eσ_63 hB hS => ?_)
                      have k_64 : σ_63 h0 6 = x_62 := by rw [eσ_63]; exact up2_same _ _ _ _
                      obtain ⟨x_65, ex_65⟩ : ∃ y : Int32, y = i_4 + 1 := ⟨_, rfl⟩
                      have vx_65 := b_add (rfl : i_4.toInt = _) (by decide : (1 : Int32).toInt = 1) ex_65 (by omega) (by omega)
                      refine lv_iinc (v := x_65) (lv' := [(5, .int x_65), (4, .int 1), (3, .int x_18), (7, .int 1), (2, .int 0), (6, .int x_18), (0, .ref h0), (1, .ref h1)]) hx hb dX7_sum_157 hl (k := 5) rfl (by rw [ex_65]; rfl) (by decide) rfl (fun ls hl => ?_)
                      refine lv_goto (tgt := 10) hx hb dX7_sum_160 (by decide) ?_
                      exact ih_7 ⟨0, x_18, 1, x_65, σ_63, ρ_17⟩ _ _ _ ⟨(by omega), (by omega), hB, hS, lv_sub hl [0, 1, 2, 4, 6, 7] rfl⟩ (by show (400 - x_65.toInt).toNat < (400 - i_4.toInt).toNat; omega)
                · skip
                  have uc_54 := i_ne (n := 0) (by decide) c_54
                  refine lv_iload_n hx hb dX7_sum_84 rfl (lv_at hl 0 rfl) ?_
                  refine lv_if_ne (tgt := 93) hx hb dX7_sum_85 (by decide) (fun c9 => absurd (by decide) c9) (fun _ => ?_)
                  refine lv_aload_n hx hb dX7_sum_88 rfl (lv_at hl 5 rfl) ?_
                  refine lv_iload_n hx hb dX7_sum_89 rfl (lv_at hl 4 rfl) ?_
                  refine t_cv (va_runV (As := [.int i_2]) (rest := []) ⟨hx, hb, hml, hown, hts⟩ (cy_X7_emit l D cA L T r hG hLA.1 σ_10 ρ_17 hB.2.1 _ h0 mh0 th0 i_2 (by first | omega | decide) (by first | omega | decide)) (cV hts mv_X7_emit mw_4_46 rfl rfl ⟨Nat.le_of_ble_eq_true rfl, Nat.le_of_ble_eq_true rfl⟩) (pV hB.1 hK hN mh0 th0 (show shp cA 7 _ _ _ = .inr (7, Fs7 _ _ _) from rfl) rfl) rfl rfl hl.1 rfl (lv_room (Nat.le_of_ble_eq_true rfl)) dX7_sum_90 ⟨Nat.le_of_ble_eq_true rfl, Nat.le_of_ble_eq_true rfl⟩) hLA hA hB hS (by decide) (fun σ_66 ρ_67 H locs hB fσ_66 pσ_66 hS => ?_)
                  refine lv_iload hx hb dX7_sum_93 (lv_at hl 1 rfl) ?_
                  refine lv_bipush (v := 43) hx hb dX7_sum_95 (by decide) ?_
                  refine lv_icmp_eq (tgt := 107) hx hb dX7_sum_97 (by decide) (fun c_69 => ?_) (fun c_69 => ?_)
                  · skip
                    have uc_69 := i_eq (n := 43) (by decide) c_69
                    refine lv_iconst (v := 1) hx hb dX7_sum_107 (by decide) ?_
                    refine lv_goto (tgt := 112) hx hb dX7_sum_108 (by decide) ?_
                    refine lv_istore (lv' := [(7, .int 1), (2, .int 0), (6, .int x_18), (5, .int i_4), (4, .int i_3), (3, .int i_2), (0, .ref h0), (1, .ref h1)]) hx hb dX7_sum_112 hl (by decide) rfl (fun ls hl => ?_)
                    refine lv_iload hx hb dX7_sum_114 (lv_at hl 0 rfl) ?_
                    refine lv_if_eq (tgt := 124) hx hb dX7_sum_116 (by decide) (fun c9 => absurd c9 (by decide)) (fun _ => ?_)
                    refine lv_iload hx hb dX7_sum_119 (lv_at hl 2 rfl) ?_
                    refine lv_goto (tgt := 125) hx hb dX7_sum_121 (by decide) ?_
                    refine lv_istore_n (lv' := [(3, .int x_18), (7, .int 1), (2, .int 0), (6, .int x_18), (5, .int i_4), (4, .int i_3), (0, .ref h0), (1, .ref h1)]) hx hb dX7_sum_125 rfl hl (by decide) rfl (fun ls hl => ?_)
                    refine lv_iload hx hb dX7_sum_126 (lv_at hl 1 rfl) ?_
                    refine lv_if_ne (tgt := 135) hx hb dX7_sum_128 (by decide) (fun _ => ?_) (fun c9 => absurd c9 (by decide))
                    refine lv_iconst (v := 1) hx hb dX7_sum_135 (by decide) ?_
                    refine lv_goto (tgt := 140) hx hb dX7_sum_136 (by decide) ?_
                    refine lv_istore (lv' := [(4, .int 1), (3, .int x_18), (7, .int 1), (2, .int 0), (6, .int x_18), (5, .int i_4), (0, .ref h0), (1, .ref h1)]) hx hb dX7_sum_140 hl (by decide) rfl (fun ls hl => ?_)
                    refine lv_iload hx hb dX7_sum_142 (lv_at hl 0 rfl) ?_
                    refine lv_if_eq (tgt := 157) hx hb dX7_sum_144 (by decide) (fun c9 => absurd c9 (by decide)) (fun _ => ?_)
                    refine lv_aload_n hx hb dX7_sum_147 rfl (lv_at hl 6 rfl) ?_
                    refine lv_dup hx hb dX7_sum_148 rfl ?_
                    have k_70 : σ_66 h0 6 = x_15 := (FR.at fσ_66 th0 (by decide)).trans ex_15.symm
                    refine t_gv hx hb hts hown hK hB mh0 th0 fi_7_6 k_70 mw_2_188 dX7_sum_149 ?_
                    refine lv_iconst (v := 1) hx hb dX7_sum_152 (by decide) ?_
                    refine lv_iadd hx hb dX7_sum_153 ?_
                    refine lv_topi (fun x_71 ex_71 => ?_)
                    refine t_pi hx hb hts hown hK hLA hB hS mh0 th0 fi_7_6 rfl rfl rfl (i_lo _) (i_hi _) (Or.inl (by decide)) mw_2_188 dX7_sum_154 (fun H locs σ_72 eσ_72 hB hS => ?_)
                    have k_73 : σ_72 h0 6 = x_71 := by rw [eσ_72]; exact up2_same _ _ _ _
                    obtain ⟨x_74, ex_74⟩ : ∃ y : Int32, y = i_4 + 1 := ⟨_, rfl⟩
                    have vx_74 := b_add (rfl : i_4.toInt = _) (by decide : (1 : Int32).toInt = 1) ex_74 (by omega) (by omega)
                    refine lv_iinc (v := x_74) (lv' := [(5, .int x_74), (4, .int 1), (3, .int x_18), (7, .int 1), (2, .int 0), (6, .int x_18), (0, .ref h0), (1, .ref h1)]) hx hb dX7_sum_157 hl (k := 5) rfl (by rw [ex_74]; rfl) (by decide) rfl (fun ls hl => ?_)
                    refine lv_goto (tgt := 10) hx hb dX7_sum_160 (by decide) ?_
                    exact ih_7 ⟨0, x_18, 1, x_74, σ_72, ρ_67⟩ _ _ _ ⟨(by omega), (by omega), hB, hS, lv_sub hl [0, 1, 2, 4, 6, 7] rfl⟩ (by show (400 - x_74.toInt).toNat < (400 - i_4.toInt).toNat; omega)
                  · skip
                    have uc_69 := i_ne (n := 43) (by decide) c_69
                    refine lv_iload hx hb dX7_sum_100 (lv_at hl 1 rfl) ?_
                    refine lv_bipush (v := 45) hx hb dX7_sum_102 (by decide) ?_
                    refine lv_icmp_ne (tgt := 111) hx hb dX7_sum_104 (by decide) (fun c_75 => ?_) (fun c_75 => ?_)
                    · skip
                      have uc_75 := i_ne (n := 45) (by decide) c_75
                      refine lv_iconst (v := 0) hx hb dX7_sum_111 (by decide) ?_
                      refine lv_istore (lv' := [(7, .int 0), (2, .int 0), (6, .int x_18), (5, .int i_4), (4, .int i_3), (3, .int i_2), (0, .ref h0), (1, .ref h1)]) hx hb dX7_sum_112 hl (by decide) rfl (fun ls hl => ?_)
                      refine lv_iload hx hb dX7_sum_114 (lv_at hl 0 rfl) ?_
                      refine lv_if_eq (tgt := 124) hx hb dX7_sum_116 (by decide) (fun _ => ?_) (fun c9 => absurd (by decide) c9)
                      refine lv_iload_n hx hb dX7_sum_124 rfl (lv_at hl 5 rfl) ?_
                      refine lv_istore_n (lv' := [(3, .int i_2), (7, .int 0), (2, .int 0), (6, .int x_18), (5, .int i_4), (4, .int i_3), (0, .ref h0), (1, .ref h1)]) hx hb dX7_sum_125 rfl hl (by decide) rfl (fun ls hl => ?_)
                      refine lv_iload hx hb dX7_sum_126 (lv_at hl 1 rfl) ?_
                      refine lv_if_ne (tgt := 135) hx hb dX7_sum_128 (by decide) (fun c9 => absurd (by decide) c9) (fun _ => ?_)
                      refine lv_iload_n hx hb dX7_sum_131 rfl (lv_at hl 2 rfl) ?_
                      refine lv_if_eq (tgt := 139) hx hb dX7_sum_132 (by decide) (fun _ => ?_) (fun c9 => absurd (by decide) c9)
                      refine lv_iconst (v := 0) hx hb dX7_sum_139 (by decide) ?_
                      refine lv_istore (lv' := [(4, .int 0), (3, .int i_2), (7, .int 0), (2, .int 0), (6, .int x_18), (5, .int i_4), (0, .ref h0), (1, .ref h1)]) hx hb dX7_sum_140 hl (by decide) rfl (fun ls hl => ?_)
                      refine lv_iload hx hb dX7_sum_142 (lv_at hl 0 rfl) ?_
                      refine lv_if_eq (tgt := 157) hx hb dX7_sum_144 (by decide) (fun _ => ?_) (fun c9 => absurd (by decide) c9)
                      obtain ⟨x_76, ex_76⟩ : ∃ y : Int32, y = i_4 + 1 := ⟨_, rfl⟩
                      have vx_76 := b_add (rfl : i_4.toInt = _) (by decide : (1 : Int32).toInt = 1) ex_76 (by omega) (by omega)
                      refine lv_iinc (v := x_76) (lv' := [(5, .int x_76), (4, .int 0), (3, .int i_2), (7, .int 0), (2, .int 0), (6, .int x_18), (0, .ref h0), (1, .ref h1)]) hx hb dX7_sum_157 hl (k := 5) rfl (by rw [ex_76]; rfl) (by decide) rfl (fun ls hl => ?_)
                      refine lv_goto (tgt := 10) hx hb dX7_sum_160 (by decide) ?_
                      exact ih_7 ⟨0, i_2, 0, x_76, σ_66, ρ_67⟩ _ _ _ ⟨(by omega), (by omega), hB, hS, lv_sub hl [0, 1, 2, 4, 6, 7] rfl⟩ (by show (400 - x_76.toInt).toNat < (400 - i_4.toInt).toNat; omega)
                    · skip
                      have uc_75 := i_eq (n := 45) (by decide) c_75
                      refine lv_iconst (v := 1) hx hb dX7_sum_107 (by decide) ?_
                      refine lv_goto (tgt := 112) hx hb dX7_sum_108 (by decide) ?_
                      refine lv_istore (lv' := [(7, .int 1), (2, .int 0), (6, .int x_18), (5, .int i_4), (4, .int i_3), (3, .int i_2), (0, .ref h0), (1, .ref h1)]) hx hb dX7_sum_112 hl (by decide) rfl (fun ls hl => ?_)
                      refine lv_iload hx hb dX7_sum_114 (lv_at hl 0 rfl) ?_
                      refine lv_if_eq (tgt := 124) hx hb dX7_sum_116 (by decide) (fun c9 => absurd c9 (by decide)) (fun _ => ?_)
                      refine lv_iload hx hb dX7_sum_119 (lv_at hl 2 rfl) ?_
                      refine lv_goto (tgt := 125) hx hb dX7_sum_121 (by decide) ?_
                      refine lv_istore_n (lv' := [(3, .int x_18), (7, .int 1), (2, .int 0), (6, .int x_18), (5, .int i_4), (4, .int i_3), (0, .ref h0), (1, .ref h1)]) hx hb dX7_sum_125 rfl hl (by decide) rfl (fun ls hl => ?_)
                      refine lv_iload hx hb dX7_sum_126 (lv_at hl 1 rfl) ?_
                      refine lv_if_ne (tgt := 135) hx hb dX7_sum_128 (by decide) (fun _ => ?_) (fun c9 => absurd c9 (by decide))
                      refine lv_iconst (v := 1) hx hb dX7_sum_135 (by decide) ?_
                      refine lv_goto (tgt := 140) hx hb dX7_sum_136 (by decide) ?_
                      refine lv_istore (lv' := [(4, .int 1), (3, .int x_18), (7, .int 1), (2, .int 0), (6, .int x_18), (5, .int i_4), (0, .ref h0), (1, .ref h1)]) hx hb dX7_sum_140 hl (by decide) rfl (fun ls hl => ?_)
                      refine lv_iload hx hb dX7_sum_142 (lv_at hl 0 rfl) ?_
                      refine lv_if_eq (tgt := 157) hx hb dX7_sum_144 (by decide) (fun c9 => absurd c9 (by decide)) (fun _ => ?_)
                      refine lv_aload_n hx hb dX7_sum_147 rfl (lv_at hl 6 rfl) ?_
                      refine lv_dup hx hb dX7_sum_148 rfl ?_
                      have k_77 : σ_66 h0 6 = x_15 := (FR.at fσ_66 th0 (by decide)).trans ex_15.symm
                      refine t_gv hx hb hts hown hK hB mh0 th0 fi_7_6 k_77 mw_2_188 dX7_sum_149 ?_
                      refine lv_iconst (v := 1) hx hb dX7_sum_152 (by decide) ?_
                      refine lv_iadd hx hb dX7_sum_153 ?_
                      refine lv_topi (fun x_78 ex_78 => ?_)
                      refine t_pi hx hb hts hown hK hLA hB hS mh0 th0 fi_7_6 rfl rfl rfl (i_lo _) (i_hi _) (Or.inl (by decide)) mw_2_188 dX7_sum_154 (fun H locs σ_79 eσ_79 hB hS => ?_)
                      have k_80 : σ_79 h0 6 = x_78 := by rw [eσ_79]; exact up2_same _ _ _ _
                      obtain ⟨x_81, ex_81⟩ : ∃ y : Int32, y = i_4 + 1 := ⟨_, rfl⟩
                      have vx_81 := b_add (rfl : i_4.toInt = _) (by decide : (1 : Int32).toInt = 1) ex_81 (by omega) (by omega)
                      refine lv_iinc (v := x_81) (lv' := [(5, .int x_81), (4, .int 1), (3, .int x_18), (7, .int 1), (2, .int 0), (6, .int x_18), (0, .ref h0), (1, .ref h1)]) hx hb dX7_sum_157 hl (k := 5) rfl (by rw [ex_81]; rfl) (by decide) rfl (fun ls hl => ?_)
                      refine lv_goto (tgt := 10) hx hb dX7_sum_160 (by decide) ?_
                      exact ih_7 ⟨0, x_18, 1, x_81, σ_79, ρ_67⟩ _ _ _ ⟨(by omega), (by omega), hB, hS, lv_sub hl [0, 1, 2, 4, 6, 7] rfl⟩ (by show (400 - x_81.toInt).toNat < (400 - i_4.toInt).toNat; omega)
              · skip
                have uc_53 := i_eq (n := 37) (by decide) c_53
                refine lv_iload hx hb dX7_sum_73 (lv_at hl 0 rfl) ?_
                refine lv_goto (tgt := 79) hx hb dX7_sum_75 (by decide) ?_
                refine lv_istore_n (lv' := [(2, .int x_18), (6, .int x_18), (5, .int i_4), (4, .int i_3), (3, .int i_2), (0, .ref h0), (1, .ref h1)]) hx hb dX7_sum_79 rfl hl (by decide) rfl (fun ls hl => ?_)
                refine lv_iload_n hx hb dX7_sum_80 rfl (lv_at hl 4 rfl) ?_
                refine lv_if_eq (tgt := 93) hx hb dX7_sum_81 (by decide) (fun c_82 => ?_) (fun c_82 => ?_)
                · skip
                  have uc_82 := i_eq (n := 0) (by decide) c_82
                  refine lv_iload hx hb dX7_sum_93 (lv_at hl 1 rfl) ?_
                  refine lv_bipush (v := 43) hx hb dX7_sum_95 (by decide) ?_
                  refine lv_icmp_eq (tgt := 107) hx hb dX7_sum_97 (by decide) (fun c_83 => ?_) (fun c_83 => ?_)
                  · skip
                    have uc_83 := i_eq (n := 43) (by decide) c_83
                    exfalso; omega
                  · skip
                    have uc_83 := i_ne (n := 43) (by decide) c_83
                    refine lv_iload hx hb dX7_sum_100 (lv_at hl 1 rfl) ?_
                    refine lv_bipush (v := 45) hx hb dX7_sum_102 (by decide) ?_
                    refine lv_icmp_ne (tgt := 111) hx hb dX7_sum_104 (by decide) (fun c_84 => ?_) (fun c_84 => ?_)
                    · skip
                      have uc_84 := i_ne (n := 45) (by decide) c_84
                      refine lv_iconst (v := 0) hx hb dX7_sum_111 (by decide) ?_
                      refine lv_istore (lv' := [(7, .int 0), (2, .int x_18), (6, .int x_18), (5, .int i_4), (4, .int i_3), (3, .int i_2), (0, .ref h0), (1, .ref h1)]) hx hb dX7_sum_112 hl (by decide) rfl (fun ls hl => ?_)
                      refine lv_iload hx hb dX7_sum_114 (lv_at hl 0 rfl) ?_
                      refine lv_if_eq (tgt := 124) hx hb dX7_sum_116 (by decide) (fun _ => ?_) (fun c9 => absurd (by decide) c9)
                      refine lv_iload_n hx hb dX7_sum_124 rfl (lv_at hl 5 rfl) ?_
                      refine lv_istore_n (lv' := [(3, .int i_2), (7, .int 0), (2, .int x_18), (6, .int x_18), (5, .int i_4), (4, .int i_3), (0, .ref h0), (1, .ref h1)]) hx hb dX7_sum_125 rfl hl (by decide) rfl (fun ls hl => ?_)
                      refine lv_iload hx hb dX7_sum_126 (lv_at hl 1 rfl) ?_
                      refine lv_if_ne (tgt := 135) hx hb dX7_sum_128 (by decide) (fun c9 => absurd (by decide) c9) (fun _ => ?_)
                      refine lv_iload_n hx hb dX7_sum_131 rfl (lv_at hl 2 rfl) ?_
                      refine lv_if_eq (tgt := 139) hx hb dX7_sum_132 (by decide) (fun c_85 => ?_) (fun c_85 => ?_)
                      · skip
                        have uc_85 := i_eq (n := 0) (by decide) c_85
                        exfalso; omega
                      · skip
                        have uc_85 := i_ne (n := 0) (by decide) c_85
                        refine lv_iconst (v := 1) hx hb dX7_sum_135 (by decide) ?_
                        refine lv_goto (tgt := 140) hx hb dX7_sum_136 (by decide) ?_
                        refine lv_istore (lv' := [(4, .int 1), (3, .int i_2), (7, .int 0), (2, .int x_18), (6, .int x_18), (5, .int i_4), (0, .ref h0), (1, .ref h1)]) hx hb dX7_sum_140 hl (by decide) rfl (fun ls hl => ?_)
                        refine lv_iload hx hb dX7_sum_142 (lv_at hl 0 rfl) ?_
                        refine lv_if_eq (tgt := 157) hx hb dX7_sum_144 (by decide) (fun c9 => absurd c9 (by decide)) (fun _ => ?_)
                        refine lv_aload_n hx hb dX7_sum_147 rfl (lv_at hl 6 rfl) ?_
                        refine lv_dup hx hb dX7_sum_148 rfl ?_
                        refine t_gv hx hb hts hown hK hB mh0 th0 fi_7_6 ex_15.symm mw_2_188 dX7_sum_149 ?_
                        refine lv_iconst (v := 1) hx hb dX7_sum_152 (by decide) ?_
                        refine lv_iadd hx hb dX7_sum_153 ?_
                        refine lv_topi (fun x_86 ex_86 => ?_)
                        refine t_pi hx hb hts hown hK hLA hB hS mh0 th0 fi_7_6 rfl rfl rfl (i_lo _) (i_hi _) (Or.inl (by decide)) mw_2_188 dX7_sum_154 (fun H locs σ_87 eσ_87 hB hS => ?_)
                        have k_88 : σ_87 h0 6 = x_86 := by rw [eσ_87]; exact up2_same _ _ _ _
                        obtain ⟨x_89, ex_89⟩ : ∃ y : Int32, y = i_4 + 1 := ⟨_, rfl⟩
                        have vx_89 := b_add (rfl : i_4.toInt = _) (by decide : (1 : Int32).toInt = 1) ex_89 (by omega) (by omega)
                        refine lv_iinc (v := x_89) (lv' := [(5, .int x_89), (4, .int 1), (3, .int i_2), (7, .int 0), (2, .int x_18), (6, .int x_18), (0, .ref h0), (1, .ref h1)]) hx hb dX7_sum_157 hl (k := 5) rfl (by rw [ex_89]; rfl) (by decide) rfl (fun ls hl => ?_)
                        refine lv_goto (tgt := 10) hx hb dX7_sum_160 (by decide) ?_
                        exact ih_7 ⟨x_18, i_2, 1, x_89, σ_87, ρ_17⟩ _ _ _ ⟨(by omega), (by omega), hB, hS, lv_sub hl [0, 1, 2, 4, 6, 7] rfl⟩ (by show (400 - x_89.toInt).toNat < (400 - i_4.toInt).toNat; omega)
                    · skip
                      have uc_84 := i_eq (n := 45) (by decide) c_84
                      exfalso; omega
                · skip
                  have uc_82 := i_ne (n := 0) (by decide) c_82
                  refine lv_iload_n hx hb dX7_sum_84 rfl (lv_at hl 0 rfl) ?_
                  refine lv_if_ne (tgt := 93) hx hb dX7_sum_85 (by decide) (fun c_90 => ?_) (fun c_90 => ?_)
                  · skip
                    have uc_90 := i_ne (n := 0) (by decide) c_90
                    refine lv_iload hx hb dX7_sum_93 (lv_at hl 1 rfl) ?_
                    refine lv_bipush (v := 43) hx hb dX7_sum_95 (by decide) ?_
                    refine lv_icmp_eq (tgt := 107) hx hb dX7_sum_97 (by decide) (fun c_91 => ?_) (fun c_91 => ?_)
                    · skip
                      have uc_91 := i_eq (n := 43) (by decide) c_91
                      exfalso; omega
                    · skip
                      have uc_91 := i_ne (n := 43) (by decide) c_91
                      refine lv_iload hx hb dX7_sum_100 (lv_at hl 1 rfl) ?_
                      refine lv_bipush (v := 45) hx hb dX7_sum_102 (by decide) ?_
                      refine lv_icmp_ne (tgt := 111) hx hb dX7_sum_104 (by decide) (fun c_92 => ?_) (fun c_92 => ?_)
                      · skip
                        have uc_92 := i_ne (n := 45) (by decide) c_92
                        refine lv_iconst (v := 0) hx hb dX7_sum_111 (by decide) ?_
                        refine lv_istore (lv' := [(7, .int 0), (2, .int x_18), (6, .int x_18), (5, .int i_4), (4, .int i_3), (3, .int i_2), (0, .ref h0), (1, .ref h1)]) hx hb dX7_sum_112 hl (by decide) rfl (fun ls hl => ?_)
                        refine lv_iload hx hb dX7_sum_114 (lv_at hl 0 rfl) ?_
                        refine lv_if_eq (tgt := 124) hx hb dX7_sum_116 (by decide) (fun _ => ?_) (fun c9 => absurd (by decide) c9)
                        refine lv_iload_n hx hb dX7_sum_124 rfl (lv_at hl 5 rfl) ?_
                        refine lv_istore_n (lv' := [(3, .int i_2), (7, .int 0), (2, .int x_18), (6, .int x_18), (5, .int i_4), (4, .int i_3), (0, .ref h0), (1, .ref h1)]) hx hb dX7_sum_125 rfl hl (by decide) rfl (fun ls hl => ?_)
                        refine lv_iload hx hb dX7_sum_126 (lv_at hl 1 rfl) ?_
                        refine lv_if_ne (tgt := 135) hx hb dX7_sum_128 (by decide) (fun c9 => absurd (by decide) c9) (fun _ => ?_)
                        refine lv_iload_n hx hb dX7_sum_131 rfl (lv_at hl 2 rfl) ?_
                        refine lv_if_eq (tgt := 139) hx hb dX7_sum_132 (by decide) (fun c_93 => ?_) (fun c_93 => ?_)
                        · skip
                          have uc_93 := i_eq (n := 0) (by decide) c_93
                          exfalso; omega
                        · skip
                          have uc_93 := i_ne (n := 0) (by decide) c_93
                          refine lv_iconst (v := 1) hx hb dX7_sum_135 (by decide) ?_
                          refine lv_goto (tgt := 140) hx hb dX7_sum_136 (by decide) ?_
                          refine lv_istore (lv' := [(4, .int 1), (3, .int i_2), (7, .int 0), (2, .int x_18), (6, .int x_18), (5, .int i_4), (0, .ref h0), (1, .ref h1)]) hx hb dX7_sum_140 hl (by decide) rfl (fun ls hl => ?_)
                          refine lv_iload hx hb dX7_sum_142 (lv_at hl 0 rfl) ?_
                          refine lv_if_eq (tgt := 157) hx hb dX7_sum_144 (by decide) (fun c9 => absurd c9 (by decide)) (fun _ => ?_)
                          refine lv_aload_n hx hb dX7_sum_147 rfl (lv_at hl 6 rfl) ?_
                          refine lv_dup hx hb dX7_sum_148 rfl ?_
                          refine t_gv hx hb hts hown hK hB mh0 th0 fi_7_6 ex_15.symm mw_2_188 dX7_sum_149 ?_
                          refine lv_iconst (v := 1) hx hb dX7_sum_152 (by decide) ?_
                          refine lv_iadd hx hb dX7_sum_153 ?_
                          refine lv_topi (fun x_94 ex_94 => ?_)
                          refine t_pi hx hb hts hown hK hLA hB hS mh0 th0 fi_7_6 rfl rfl rfl (i_lo _) (i_hi _) (Or.inl (by decide)) mw_2_188 dX7_sum_154 (fun H locs σ_95 eσ_95 hB hS => ?_)
                          have k_96 : σ_95 h0 6 = x_94 := by rw [eσ_95]; exact up2_same _ _ _ _
                          obtain ⟨x_97, ex_97⟩ : ∃ y : Int32, y = i_4 + 1 := ⟨_, rfl⟩
                          have vx_97 := b_add (rfl : i_4.toInt = _) (by decide : (1 : Int32).toInt = 1) ex_97 (by omega) (by omega)
                          refine lv_iinc (v := x_97) (lv' := [(5, .int x_97), (4, .int 1), (3, .int i_2), (7, .int 0), (2, .int x_18), (6, .int x_18), (0, .ref h0), (1, .ref h1)]) hx hb dX7_sum_157 hl (k := 5) rfl (by rw [ex_97]; rfl) (by decide) rfl (fun ls hl => ?_)
                          refine lv_goto (tgt := 10) hx hb dX7_sum_160 (by decide) ?_
                          exact ih_7 ⟨x_18, i_2, 1, x_97, σ_95, ρ_17⟩ _ _ _ ⟨(by omega), (by omega), hB, hS, lv_sub hl [0, 1, 2, 4, 6, 7] rfl⟩ (by show (400 - x_97.toInt).toNat < (400 - i_4.toInt).toNat; omega)
                      · skip
                        have uc_92 := i_eq (n := 45) (by decide) c_92
                        exfalso; omega
                  · skip
                    have uc_90 := i_eq (n := 0) (by decide) c_90
                    exfalso; omega
        · skip
          have uc_14 := i_ne (n := 0) (by decide) c_14
          refine lv_aload_n hx hb dX7_sum_37 rfl (lv_at hl 4 rfl) ?_
          refine lv_iload_n hx hb dX7_sum_38 rfl (lv_at hl 3 rfl) ?_
          refine t_cv (va_runV (As := [.int i_1]) (rest := []) ⟨hx, hb, hml, hown, hts⟩ (cy_X7_emit l D cA L T r hG hLA.1 σ_10 ρ_11 hB.2.1 _ h0 mh0 th0 i_1 (by first | omega | decide) (by first | omega | decide)) (cV hts mv_X7_emit mw_4_46 rfl rfl ⟨Nat.le_of_ble_eq_true rfl, Nat.le_of_ble_eq_true rfl⟩) (pV hB.1 hK hN mh0 th0 (show shp cA 7 _ _ _ = .inr (7, Fs7 _ _ _) from rfl) rfl) rfl rfl hl.1 rfl (lv_room (Nat.le_of_ble_eq_true rfl)) dX7_sum_39 ⟨Nat.le_of_ble_eq_true rfl, Nat.le_of_ble_eq_true rfl⟩) hLA hA hB hS (by decide) (fun σ_98 ρ_99 H locs hB fσ_98 pσ_98 hS => ?_)
          refine lv_aload_n hx hb dX7_sum_42 rfl (lv_at hl 5 rfl) ?_
          refine lv_aload_n hx hb dX7_sum_43 rfl (lv_at hl 4 rfl) ?_
          refine t_gi hx hb hts hown hK hB mh0 th0 fi_7_6 rfl mw_2_188 dX7_sum_44 (fun x_101 ex_101 lx_101 ux_101 => ?_)
          refine t_ci (va_runV (As := [.int x_101]) (rest := []) ⟨hx, hb, hml, hown, hts⟩ (cy_X9_kindAt l D cA L T r hG hLA.1 σ_98 ρ_99 hB.2.1 _ h1 mh1 th1 x_101) (cV hts mv_X9_kindAt mw_4_41 rfl rfl ⟨Nat.le_of_ble_eq_true rfl, Nat.le_of_ble_eq_true rfl⟩) (pV hB.1 hK hN mh1 th1 (show shp cA 9 _ _ _ = .inr (9, Fs9 _ _ _) from rfl) rfl) rfl rfl hl.1 rfl (lv_room (Nat.le_of_ble_eq_true rfl)) dX7_sum_47 ⟨Nat.le_of_ble_eq_true rfl, Nat.le_of_ble_eq_true rfl⟩) hLA hA hB hS (by decide) (fun x_104 σ_102 ρ_103 H locs hB fσ_102 pσ_102 hS => ?_)
          have qσ_102 := FR.nil fσ_102
          subst qσ_102
          obtain ⟨lx_104, ux_104⟩ := pσ_102
          refine lv_istore (lv' := [(6, .int x_104), (5, .int i_4), (4, .int i_3), (3, .int i_2), (2, .int i_1), (0, .ref h0), (1, .ref h1)]) hx hb dX7_sum_50 hl (by decide) rfl (fun ls hl => ?_)
          refine lv_iload hx hb dX7_sum_52 (lv_at hl 0 rfl) ?_
          refine lv_bipush (v := 42) hx hb dX7_sum_54 (by decide) ?_
          refine lv_icmp_eq (tgt := 73) hx hb dX7_sum_56 (by decide) (fun c_105 => ?_) (fun c_105 => ?_)
          · skip
            have uc_105 := i_eq (n := 42) (by decide) c_105
            refine lv_iload hx hb dX7_sum_73 (lv_at hl 0 rfl) ?_
            refine lv_goto (tgt := 79) hx hb dX7_sum_75 (by decide) ?_
            refine lv_istore_n (lv' := [(2, .int x_104), (6, .int x_104), (5, .int i_4), (4, .int i_3), (3, .int i_2), (0, .ref h0), (1, .ref h1)]) hx hb dX7_sum_79 rfl hl (by decide) rfl (fun ls hl => ?_)
            refine lv_iload_n hx hb dX7_sum_80 rfl (lv_at hl 4 rfl) ?_
            refine lv_if_eq (tgt := 93) hx hb dX7_sum_81 (by decide) (fun c_106 => ?_) (fun c_106 => ?_)
            · skip
              have uc_106 := i_eq (n := 0) (by decide) c_106
              refine lv_iload hx hb dX7_sum_93 (lv_at hl 1 rfl) ?_
              refine lv_bipush (v := 43) hx hb dX7_sum_95 (by decide) ?_
              refine lv_icmp_eq (tgt := 107) hx hb dX7_sum_97 (by decide) (fun c_107 => ?_) (fun c_107 => ?_)
              · skip
                have uc_107 := i_eq (n := 43) (by decide) c_107
                exfalso; omega
              · skip
                have uc_107 := i_ne (n := 43) (by decide) c_107
                refine lv_iload hx hb dX7_sum_100 (lv_at hl 1 rfl) ?_
                refine lv_bipush (v := 45) hx hb dX7_sum_102 (by decide) ?_
                refine lv_icmp_ne (tgt := 111) hx hb dX7_sum_104 (by decide) (fun c_108 => ?_) (fun c_108 => ?_)
                · skip
                  have uc_108 := i_ne (n := 45) (by decide) c_108
                  refine lv_iconst (v := 0) hx hb dX7_sum_111 (by decide) ?_
                  refine lv_istore (lv' := [(7, .int 0), (2, .int x_104), (6, .int x_104), (5, .int i_4), (4, .int i_3), (3, .int i_2), (0, .ref h0), (1, .ref h1)]) hx hb dX7_sum_112 hl (by decide) rfl (fun ls hl => ?_)
                  refine lv_iload hx hb dX7_sum_114 (lv_at hl 0 rfl) ?_
                  refine lv_if_eq (tgt := 124) hx hb dX7_sum_116 (by decide) (fun _ => ?_) (fun c9 => absurd (by decide) c9)
                  refine lv_iload_n hx hb dX7_sum_124 rfl (lv_at hl 5 rfl) ?_
                  refine lv_istore_n (lv' := [(3, .int i_2), (7, .int 0), (2, .int x_104), (6, .int x_104), (5, .int i_4), (4, .int i_3), (0, .ref h0), (1, .ref h1)]) hx hb dX7_sum_125 rfl hl (by decide) rfl (fun ls hl => ?_)
                  refine lv_iload hx hb dX7_sum_126 (lv_at hl 1 rfl) ?_
                  refine lv_if_ne (tgt := 135) hx hb dX7_sum_128 (by decide) (fun c9 => absurd (by decide) c9) (fun _ => ?_)
                  refine lv_iload_n hx hb dX7_sum_131 rfl (lv_at hl 2 rfl) ?_
                  refine lv_if_eq (tgt := 139) hx hb dX7_sum_132 (by decide) (fun c_109 => ?_) (fun c_109 => ?_)
                  · skip
                    have uc_109 := i_eq (n := 0) (by decide) c_109
                    exfalso; omega
                  · skip
                    have uc_109 := i_ne (n := 0) (by decide) c_109
                    refine lv_iconst (v := 1) hx hb dX7_sum_135 (by decide) ?_
                    refine lv_goto (tgt := 140) hx hb dX7_sum_136 (by decide) ?_
                    refine lv_istore (lv' := [(4, .int 1), (3, .int i_2), (7, .int 0), (2, .int x_104), (6, .int x_104), (5, .int i_4), (0, .ref h0), (1, .ref h1)]) hx hb dX7_sum_140 hl (by decide) rfl (fun ls hl => ?_)
                    refine lv_iload hx hb dX7_sum_142 (lv_at hl 0 rfl) ?_
                    refine lv_if_eq (tgt := 157) hx hb dX7_sum_144 (by decide) (fun c9 => absurd c9 (by decide)) (fun _ => ?_)
                    refine lv_aload_n hx hb dX7_sum_147 rfl (lv_at hl 6 rfl) ?_
                    refine lv_dup hx hb dX7_sum_148 rfl ?_
                    refine t_gv hx hb hts hown hK hB mh0 th0 fi_7_6 ex_101.symm mw_2_188 dX7_sum_149 ?_
                    refine lv_iconst (v := 1) hx hb dX7_sum_152 (by decide) ?_
                    refine lv_iadd hx hb dX7_sum_153 ?_
                    refine lv_topi (fun x_110 ex_110 => ?_)
                    refine t_pi hx hb hts hown hK hLA hB hS mh0 th0 fi_7_6 rfl rfl rfl (i_lo _) (i_hi _) (Or.inl (by decide)) mw_2_188 dX7_sum_154 (fun H locs σ_111 eσ_111 hB hS => ?_)
                    have k_112 : σ_111 h0 6 = x_110 := by rw [eσ_111]; exact up2_same _ _ _ _
                    obtain ⟨x_113, ex_113⟩ : ∃ y : Int32, y = i_4 + 1 := ⟨_, rfl⟩
                    have vx_113 := b_add (rfl : i_4.toInt = _) (by decide : (1 : Int32).toInt = 1) ex_113 (by omega) (by omega)
                    refine lv_iinc (v := x_113) (lv' := [(5, .int x_113), (4, .int 1), (3, .int i_2), (7, .int 0), (2, .int x_104), (6, .int x_104), (0, .ref h0), (1, .ref h1)]) hx hb dX7_sum_157 hl (k := 5) rfl (by rw [ex_113]; rfl) (by decide) rfl (fun ls hl => ?_)
                    refine lv_goto (tgt := 10) hx hb dX7_sum_160 (by decide) ?_
                    exact ih_7 ⟨x_104, i_2, 1, x_113, σ_111, ρ_103⟩ _ _ _ ⟨(by omega), (by omega), hB, hS, lv_sub hl [0, 1, 2, 4, 6, 7] rfl⟩ (by show (400 - x_113.toInt).toNat < (400 - i_4.toInt).toNat; omega)
                · skip
                  have uc_108 := i_eq (n := 45) (by decide) c_108
                  exfalso; omega
            · skip
              have uc_106 := i_ne (n := 0) (by decide) c_106
              refine lv_iload_n hx hb dX7_sum_84 rfl (lv_at hl 0 rfl) ?_
              refine lv_if_ne (tgt := 93) hx hb dX7_sum_85 (by decide) (fun c_114 => ?_) (fun c_114 => ?_)
              · skip
                have uc_114 := i_ne (n := 0) (by decide) c_114
                refine lv_iload hx hb dX7_sum_93 (lv_at hl 1 rfl) ?_
                refine lv_bipush (v := 43) hx hb dX7_sum_95 (by decide) ?_
                refine lv_icmp_eq (tgt := 107) hx hb dX7_sum_97 (by decide) (fun c_115 => ?_) (fun c_115 => ?_)
                · skip
                  have uc_115 := i_eq (n := 43) (by decide) c_115
                  exfalso; omega
                · skip
                  have uc_115 := i_ne (n := 43) (by decide) c_115
                  refine lv_iload hx hb dX7_sum_100 (lv_at hl 1 rfl) ?_
                  refine lv_bipush (v := 45) hx hb dX7_sum_102 (by decide) ?_
                  refine lv_icmp_ne (tgt := 111) hx hb dX7_sum_104 (by decide) (fun c_116 => ?_) (fun c_116 => ?_)
                  · skip
                    have uc_116 := i_ne (n := 45) (by decide) c_116
                    refine lv_iconst (v := 0) hx hb dX7_sum_111 (by decide) ?_
                    refine lv_istore (lv' := [(7, .int 0), (2, .int x_104), (6, .int x_104), (5, .int i_4), (4, .int i_3), (3, .int i_2), (0, .ref h0), (1, .ref h1)]) hx hb dX7_sum_112 hl (by decide) rfl (fun ls hl => ?_)
                    refine lv_iload hx hb dX7_sum_114 (lv_at hl 0 rfl) ?_
                    refine lv_if_eq (tgt := 124) hx hb dX7_sum_116 (by decide) (fun _ => ?_) (fun c9 => absurd (by decide) c9)
                    refine lv_iload_n hx hb dX7_sum_124 rfl (lv_at hl 5 rfl) ?_
                    refine lv_istore_n (lv' := [(3, .int i_2), (7, .int 0), (2, .int x_104), (6, .int x_104), (5, .int i_4), (4, .int i_3), (0, .ref h0), (1, .ref h1)]) hx hb dX7_sum_125 rfl hl (by decide) rfl (fun ls hl => ?_)
                    refine lv_iload hx hb dX7_sum_126 (lv_at hl 1 rfl) ?_
                    refine lv_if_ne (tgt := 135) hx hb dX7_sum_128 (by decide) (fun c9 => absurd (by decide) c9) (fun _ => ?_)
                    refine lv_iload_n hx hb dX7_sum_131 rfl (lv_at hl 2 rfl) ?_
                    refine lv_if_eq (tgt := 139) hx hb dX7_sum_132 (by decide) (fun c_117 => ?_) (fun c_117 => ?_)
                    · skip
                      have uc_117 := i_eq (n := 0) (by decide) c_117
                      exfalso; omega
                    · skip
                      have uc_117 := i_ne (n := 0) (by decide) c_117
                      refine lv_iconst (v := 1) hx hb dX7_sum_135 (by decide) ?_
                      refine lv_goto (tgt := 140) hx hb dX7_sum_136 (by decide) ?_
                      refine lv_istore (lv' := [(4, .int 1), (3, .int i_2), (7, .int 0), (2, .int x_104), (6, .int x_104), (5, .int i_4), (0, .ref h0), (1, .ref h1)]) hx hb dX7_sum_140 hl (by decide) rfl (fun ls hl => ?_)
                      refine lv_iload hx hb dX7_sum_142 (lv_at hl 0 rfl) ?_
                      refine lv_if_eq (tgt := 157) hx hb dX7_sum_144 (by decide) (fun c9 => absurd c9 (by decide)) (fun _ => ?_)
                      refine lv_aload_n hx hb dX7_sum_147 rfl (lv_at hl 6 rfl) ?_
                      refine lv_dup hx hb dX7_sum_148 rfl ?_
                      refine t_gv hx hb hts hown hK hB mh0 th0 fi_7_6 ex_101.symm mw_2_188 dX7_sum_149 ?_
                      refine lv_iconst (v := 1) hx hb dX7_sum_152 (by decide) ?_
                      refine lv_iadd hx hb dX7_sum_153 ?_
                      refine lv_topi (fun x_118 ex_118 => ?_)
                      refine t_pi hx hb hts hown hK hLA hB hS mh0 th0 fi_7_6 rfl rfl rfl (i_lo _) (i_hi _) (Or.inl (by decide)) mw_2_188 dX7_sum_154 (fun H locs σ_119 eσ_119 hB hS => ?_)
                      have k_120 : σ_119 h0 6 = x_118 := by rw [eσ_119]; exact up2_same _ _ _ _
                      obtain ⟨x_121, ex_121⟩ : ∃ y : Int32, y = i_4 + 1 := ⟨_, rfl⟩
                      have vx_121 := b_add (rfl : i_4.toInt = _) (by decide : (1 : Int32).toInt = 1) ex_121 (by omega) (by omega)
                      refine lv_iinc (v := x_121) (lv' := [(5, .int x_121), (4, .int 1), (3, .int i_2), (7, .int 0), (2, .int x_104), (6, .int x_104), (0, .ref h0), (1, .ref h1)]) hx hb dX7_sum_157 hl (k := 5) rfl (by rw [ex_121]; rfl) (by decide) rfl (fun ls hl => ?_)
                      refine lv_goto (tgt := 10) hx hb dX7_sum_160 (by decide) ?_
                      exact ih_7 ⟨x_104, i_2, 1, x_121, σ_119, ρ_103⟩ _ _ _ ⟨(by omega), (by omega), hB, hS, lv_sub hl [0, 1, 2, 4, 6, 7] rfl⟩ (by show (400 - x_121.toInt).toNat < (400 - i_4.toInt).toNat; omega)
                  · skip
                    have uc_116 := i_eq (n := 45) (by decide) c_116
                    exfalso; omega
              · skip
                have uc_114 := i_eq (n := 0) (by decide) c_114
                exfalso; omega
          · skip
            have uc_105 := i_ne (n := 42) (by decide) c_105
            refine lv_iload hx hb dX7_sum_59 (lv_at hl 0 rfl) ?_
            refine lv_bipush (v := 47) hx hb dX7_sum_61 (by decide) ?_
            refine lv_icmp_eq (tgt := 73) hx hb dX7_sum_63 (by decide) (fun c_122 => ?_) (fun c_122 => ?_)
            · skip
              have uc_122 := i_eq (n := 47) (by decide) c_122
              refine lv_iload hx hb dX7_sum_73 (lv_at hl 0 rfl) ?_
              refine lv_goto (tgt := 79) hx hb dX7_sum_75 (by decide) ?_
              refine lv_istore_n (lv' := [(2, .int x_104), (6, .int x_104), (5, .int i_4), (4, .int i_3), (3, .int i_2), (0, .ref h0), (1, .ref h1)]) hx hb dX7_sum_79 rfl hl (by decide) rfl (fun ls hl => ?_)
              refine lv_iload_n hx hb dX7_sum_80 rfl (lv_at hl 4 rfl) ?_
              refine lv_if_eq (tgt := 93) hx hb dX7_sum_81 (by decide) (fun c_123 => ?_) (fun c_123 => ?_)
              · skip
                have uc_123 := i_eq (n := 0) (by decide) c_123
                refine lv_iload hx hb dX7_sum_93 (lv_at hl 1 rfl) ?_
                refine lv_bipush (v := 43) hx hb dX7_sum_95 (by decide) ?_
                refine lv_icmp_eq (tgt := 107) hx hb dX7_sum_97 (by decide) (fun c_124 => ?_) (fun c_124 => ?_)
                · skip
                  have uc_124 := i_eq (n := 43) (by decide) c_124
                  exfalso; omega
                · skip
                  have uc_124 := i_ne (n := 43) (by decide) c_124
                  refine lv_iload hx hb dX7_sum_100 (lv_at hl 1 rfl) ?_
                  refine lv_bipush (v := 45) hx hb dX7_sum_102 (by decide) ?_
                  refine lv_icmp_ne (tgt := 111) hx hb dX7_sum_104 (by decide) (fun c_125 => ?_) (fun c_125 => ?_)
                  · skip
                    have uc_125 := i_ne (n := 45) (by decide) c_125
                    refine lv_iconst (v := 0) hx hb dX7_sum_111 (by decide) ?_
                    refine lv_istore (lv' := [(7, .int 0), (2, .int x_104), (6, .int x_104), (5, .int i_4), (4, .int i_3), (3, .int i_2), (0, .ref h0), (1, .ref h1)]) hx hb dX7_sum_112 hl (by decide) rfl (fun ls hl => ?_)
                    refine lv_iload hx hb dX7_sum_114 (lv_at hl 0 rfl) ?_
                    refine lv_if_eq (tgt := 124) hx hb dX7_sum_116 (by decide) (fun _ => ?_) (fun c9 => absurd (by decide) c9)
                    refine lv_iload_n hx hb dX7_sum_124 rfl (lv_at hl 5 rfl) ?_
                    refine lv_istore_n (lv' := [(3, .int i_2), (7, .int 0), (2, .int x_104), (6, .int x_104), (5, .int i_4), (4, .int i_3), (0, .ref h0), (1, .ref h1)]) hx hb dX7_sum_125 rfl hl (by decide) rfl (fun ls hl => ?_)
                    refine lv_iload hx hb dX7_sum_126 (lv_at hl 1 rfl) ?_
                    refine lv_if_ne (tgt := 135) hx hb dX7_sum_128 (by decide) (fun c9 => absurd (by decide) c9) (fun _ => ?_)
                    refine lv_iload_n hx hb dX7_sum_131 rfl (lv_at hl 2 rfl) ?_
                    refine lv_if_eq (tgt := 139) hx hb dX7_sum_132 (by decide) (fun c_126 => ?_) (fun c_126 => ?_)
                    · skip
                      have uc_126 := i_eq (n := 0) (by decide) c_126
                      exfalso; omega
                    · skip
                      have uc_126 := i_ne (n := 0) (by decide) c_126
                      refine lv_iconst (v := 1) hx hb dX7_sum_135 (by decide) ?_
                      refine lv_goto (tgt := 140) hx hb dX7_sum_136 (by decide) ?_
                      refine lv_istore (lv' := [(4, .int 1), (3, .int i_2), (7, .int 0), (2, .int x_104), (6, .int x_104), (5, .int i_4), (0, .ref h0), (1, .ref h1)]) hx hb dX7_sum_140 hl (by decide) rfl (fun ls hl => ?_)
                      refine lv_iload hx hb dX7_sum_142 (lv_at hl 0 rfl) ?_
                      refine lv_if_eq (tgt := 157) hx hb dX7_sum_144 (by decide) (fun c9 => absurd c9 (by decide)) (fun _ => ?_)
                      refine lv_aload_n hx hb dX7_sum_147 rfl (lv_at hl 6 rfl) ?_
                      refine lv_dup hx hb dX7_sum_148 rfl ?_
                      refine t_gv hx hb hts hown hK hB mh0 th0 fi_7_6 ex_101.symm mw_2_188 dX7_sum_149 ?_
                      refine lv_iconst (v := 1) hx hb dX7_sum_152 (by decide) ?_
                      refine lv_iadd hx hb dX7_sum_153 ?_
                      refine lv_topi (fun x_127 ex_127 => ?_)
                      refine t_pi hx hb hts hown hK hLA hB hS mh0 th0 fi_7_6 rfl rfl rfl (i_lo _) (i_hi _) (Or.inl (by decide)) mw_2_188 dX7_sum_154 (fun H locs σ_128 eσ_128 hB hS => ?_)
                      have k_129 : σ_128 h0 6 = x_127 := by rw [eσ_128]; exact up2_same _ _ _ _
                      obtain ⟨x_130, ex_130⟩ : ∃ y : Int32, y = i_4 + 1 := ⟨_, rfl⟩
                      have vx_130 := b_add (rfl : i_4.toInt = _) (by decide : (1 : Int32).toInt = 1) ex_130 (by omega) (by omega)
                      refine lv_iinc (v := x_130) (lv' := [(5, .int x_130), (4, .int 1), (3, .int i_2), (7, .int 0), (2, .int x_104), (6, .int x_104), (0, .ref h0), (1, .ref h1)]) hx hb dX7_sum_157 hl (k := 5) rfl (by rw [ex_130]; rfl) (by decide) rfl (fun ls hl => ?_)
                      refine lv_goto (tgt := 10) hx hb dX7_sum_160 (by decide) ?_
                      exact ih_7 ⟨x_104, i_2, 1, x_130, σ_128, ρ_103⟩ _ _ _ ⟨(by omega), (by omega), hB, hS, lv_sub hl [0, 1, 2, 4, 6, 7] rfl⟩ (by show (400 - x_130.toInt).toNat < (400 - i_4.toInt).toNat; omega)
                  · skip
                    have uc_125 := i_eq (n := 45) (by decide) c_125
                    exfalso; omega
              · skip
                have uc_123 := i_ne (n := 0) (by decide) c_123
                refine lv_iload_n hx hb dX7_sum_84 rfl (lv_at hl 0 rfl) ?_
                refine lv_if_ne (tgt := 93) hx hb dX7_sum_85 (by decide) (fun c_131 => ?_) (fun c_131 => ?_)
                · skip
                  have uc_131 := i_ne (n := 0) (by decide) c_131
                  refine lv_iload hx hb dX7_sum_93 (lv_at hl 1 rfl) ?_
                  refine lv_bipush (v := 43) hx hb dX7_sum_95 (by decide) ?_
                  refine lv_icmp_eq (tgt := 107) hx hb dX7_sum_97 (by decide) (fun c_132 => ?_) (fun c_132 => ?_)
                  · skip
                    have uc_132 := i_eq (n := 43) (by decide) c_132
                    exfalso; omega
                  · skip
                    have uc_132 := i_ne (n := 43) (by decide) c_132
                    refine lv_iload hx hb dX7_sum_100 (lv_at hl 1 rfl) ?_
                    refine lv_bipush (v := 45) hx hb dX7_sum_102 (by decide) ?_
                    refine lv_icmp_ne (tgt := 111) hx hb dX7_sum_104 (by decide) (fun c_133 => ?_) (fun c_133 => ?_)
                    · skip
                      have uc_133 := i_ne (n := 45) (by decide) c_133
                      refine lv_iconst (v := 0) hx hb dX7_sum_111 (by decide) ?_
                      refine lv_istore (lv' := [(7, .int 0), (2, .int x_104), (6, .int x_104), (5, .int i_4), (4, .int i_3), (3, .int i_2), (0, .ref h0), (1, .ref h1)]) hx hb dX7_sum_112 hl (by decide) rfl (fun ls hl => ?_)
                      refine lv_iload hx hb dX7_sum_114 (lv_at hl 0 rfl) ?_
                      refine lv_if_eq (tgt := 124) hx hb dX7_sum_116 (by decide) (fun _ => ?_) (fun c9 => absurd (by decide) c9)
                      refine lv_iload_n hx hb dX7_sum_124 rfl (lv_at hl 5 rfl) ?_
                      refine lv_istore_n (lv' := [(3, .int i_2), (7, .int 0), (2, .int x_104), (6, .int x_104), (5, .int i_4), (4, .int i_3), (0, .ref h0), (1, .ref h1)]) hx hb dX7_sum_125 rfl hl (by decide) rfl (fun ls hl => ?_)
                      refine lv_iload hx hb dX7_sum_126 (lv_at hl 1 rfl) ?_
                      refine lv_if_ne (tgt := 135) hx hb dX7_sum_128 (by decide) (fun c9 => absurd (by decide) c9) (fun _ => ?_)
                      refine lv_iload_n hx hb dX7_sum_131 rfl (lv_at hl 2 rfl) ?_
                      refine lv_if_eq (tgt := 139) hx hb dX7_sum_132 (by decide) (fun c_134 => ?_) (fun c_134 => ?_)
                      · skip
                        have uc_134 := i_eq (n := 0) (by decide) c_134
                        exfalso; omega
                      · skip
                        have uc_134 := i_ne (n := 0) (by decide) c_134
                        refine lv_iconst (v := 1) hx hb dX7_sum_135 (by decide) ?_
                        refine lv_goto (tgt := 140) hx hb dX7_sum_136 (by decide) ?_
                        refine lv_istore (lv' := [(4, .int 1), (3, .int i_2), (7, .int 0), (2, .int x_104), (6, .int x_104), (5, .int i_4), (0, .ref h0), (1, .ref h1)]) hx hb dX7_sum_140 hl (by decide) rfl (fun ls hl => ?_)
                        refine lv_iload hx hb dX7_sum_142 (lv_at hl 0 rfl) ?_
                        refine lv_if_eq (tgt := 157) hx hb dX7_sum_144 (by decide) (fun c9 => absurd c9 (by decide)) (fun _ => ?_)
                        refine lv_aload_n hx hb dX7_sum_147 rfl (lv_at hl 6 rfl) ?_
                        refine lv_dup hx hb dX7_sum_148 rfl ?_
                        refine t_gv hx hb hts hown hK hB mh0 th0 fi_7_6 ex_101.symm mw_2_188 dX7_sum_149 ?_
                        refine lv_iconst (v := 1) hx hb dX7_sum_152 (by decide) ?_
                        refine lv_iadd hx hb dX7_sum_153 ?_
                        refine lv_topi (fun x_135 ex_135 => ?_)
                        refine t_pi hx hb hts hown hK hLA hB hS mh0 th0 fi_7_6 rfl rfl rfl (i_lo _) (i_hi _) (Or.inl (by decide)) mw_2_188 dX7_sum_154 (fun H locs σ_136 eσ_136 hB hS => ?_)
                        have k_137 : σ_136 h0 6 = x_135 := by rw [eσ_136]; exact up2_same _ _ _ _
                        obtain ⟨x_138, ex_138⟩ : ∃ y : Int32, y = i_4 + 1 := ⟨_, rfl⟩
                        have vx_138 := b_add (rfl : i_4.toInt = _) (by decide : (1 : Int32).toInt = 1) ex_138 (by omega) (by omega)
                        refine lv_iinc (v := x_138) (lv' := [(5, .int x_138), (4, .int 1), (3, .int i_2), (7, .int 0), (2, .int x_104), (6, .int x_104), (0, .ref h0), (1, .ref h1)]) hx hb dX7_sum_157 hl (k := 5) rfl (by rw [ex_138]; rfl) (by decide) rfl (fun ls hl => ?_)
                        refine lv_goto (tgt := 10) hx hb dX7_sum_160 (by decide) ?_
                        exact ih_7 ⟨x_104, i_2, 1, x_138, σ_136, ρ_103⟩ _ _ _ ⟨(by omega), (by omega), hB, hS, lv_sub hl [0, 1, 2, 4, 6, 7] rfl⟩ (by show (400 - x_138.toInt).toNat < (400 - i_4.toInt).toNat; omega)
                    · skip
                      have uc_133 := i_eq (n := 45) (by decide) c_133
                      exfalso; omega
                · skip
                  have uc_131 := i_eq (n := 0) (by decide) c_131
                  exfalso; omega
            · skip
              have uc_122 := i_ne (n := 47) (by decide) c_122
              refine lv_iload hx hb dX7_sum_66 (lv_at hl 0 rfl) ?_
              refine lv_bipush (v := 37) hx hb dX7_sum_68 (by decide) ?_
              refine lv_icmp_ne (tgt := 78) hx hb dX7_sum_70 (by decide) (fun c_139 => ?_) (fun c_139 => ?_)
              · skip
                have uc_139 := i_ne (n := 37) (by decide) c_139
                refine lv_iconst (v := 0) hx hb dX7_sum_78 (by decide) ?_
                refine lv_istore_n (lv' := [(2, .int 0), (6, .int x_104), (5, .int i_4), (4, .int i_3), (3, .int i_2), (0, .ref h0), (1, .ref h1)]) hx hb dX7_sum_79 rfl hl (by decide) rfl (fun ls hl => ?_)
                refine lv_iload_n hx hb dX7_sum_80 rfl (lv_at hl 4 rfl) ?_
                refine lv_if_eq (tgt := 93) hx hb dX7_sum_81 (by decide) (fun c_140 => ?_) (fun c_140 => ?_)
                · skip
                  have uc_140 := i_eq (n := 0) (by decide) c_140
                  refine lv_iload hx hb dX7_sum_93 (lv_at hl 1 rfl) ?_
                  refine lv_bipush (v := 43) hx hb dX7_sum_95 (by decide) ?_
                  refine lv_icmp_eq (tgt := 107) hx hb dX7_sum_97 (by decide) (fun c_141 => ?_) (fun c_141 => ?_)
                  · skip
                    have uc_141 := i_eq (n := 43) (by decide) c_141
                    refine lv_iconst (v := 1) hx hb dX7_sum_107 (by decide) ?_
                    refine lv_goto (tgt := 112) hx hb dX7_sum_108 (by decide) ?_
                    refine lv_istore (lv' := [(7, .int 1), (2, .int 0), (6, .int x_104), (5, .int i_4), (4, .int i_3), (3, .int i_2), (0, .ref h0), (1, .ref h1)]) hx hb dX7_sum_112 hl (by decide) rfl (fun ls hl => ?_)
                    refine lv_iload hx hb dX7_sum_114 (lv_at hl 0 rfl) ?_
                    refine lv_if_eq (tgt := 124) hx hb dX7_sum_116 (by decide) (fun c9 => absurd c9 (by decide)) (fun _ => ?_)
                    refine lv_iload hx hb dX7_sum_119 (lv_at hl 2 rfl) ?_
                    refine lv_goto (tgt := 125) hx hb dX7_sum_121 (by decide) ?_
                    refine lv_istore_n (lv' := [(3, .int x_104), (7, .int 1), (2, .int 0), (6, .int x_104), (5, .int i_4), (4, .int i_3), (0, .ref h0), (1, .ref h1)]) hx hb dX7_sum_125 rfl hl (by decide) rfl (fun ls hl => ?_)
                    refine lv_iload hx hb dX7_sum_126 (lv_at hl 1 rfl) ?_
                    refine lv_if_ne (tgt := 135) hx hb dX7_sum_128 (by decide) (fun _ => ?_) (fun c9 => absurd c9 (by decide))
                    refine lv_iconst (v := 1) hx hb dX7_sum_135 (by decide) ?_
                    refine lv_goto (tgt := 140) hx hb dX7_sum_136 (by decide) ?_
                    refine lv_istore (lv' := [(4, .int 1), (3, .int x_104), (7, .int 1), (2, .int 0), (6, .int x_104), (5, .int i_4), (0, .ref h0), (1, .ref h1)]) hx hb dX7_sum_140 hl (by decide) rfl (fun ls hl => ?_)
                    refine lv_iload hx hb dX7_sum_142 (lv_at hl 0 rfl) ?_
                    refine lv_if_eq (tgt := 157) hx hb dX7_sum_144 (by decide) (fun c9 => absurd c9 (by decide)) (fun _ => ?_)
                    refine lv_aload_n hx hb dX7_sum_147 rfl (lv_at hl 6 rfl) ?_
                    refine lv_dup hx hb dX7_sum_148 rfl ?_
                    refine t_gv hx hb hts hown hK hB mh0 th0 fi_7_6 ex_101.symm mw_2_188 dX7_sum_149 ?_
                    refine lv_iconst (v := 1) hx hb dX7_sum_152 (by decide) ?_
                    refine lv_iadd hx hb dX7_sum_153 ?_
                    refine lv_topi (fun x_142 ex_142 => ?_)
                    refine t_pi hx hb hts hown hK hLA hB hS mh0 th0 fi_7_6 rfl rfl rfl (i_lo _) (i_hi _) (Or.inl (by decide)) mw_2_188 dX7_sum_154 (fun H locs σ_143 eσ_143 hB hS => ?_)
                    have k_144 : σ_143 h0 6 = x_142 := by rw [eσ_143]; exact up2_same _ _ _ _
                    obtain ⟨x_145, ex_145⟩ : ∃ y : Int32, y = i_4 + 1 := ⟨_, rfl⟩
                    have vx_145 := b_add (rfl : i_4.toInt = _) (by decide : (1 : Int32).toInt = 1) ex_145 (by omega) (by omega)
                    refine lv_iinc (v := x_145) (lv' := [(5, .int x_145), (4, .int 1), (3, .int x_104), (7, .int 1), (2, .int 0), (6, .int x_104), (0, .ref h0), (1, .ref h1)]) hx hb dX7_sum_157 hl (k := 5) rfl (by rw [ex_145]; rfl) (by decide) rfl (fun ls hl => ?_)
                    refine lv_goto (tgt := 10) hx hb dX7_sum_160 (by decide) ?_
                    exact ih_7 ⟨0, x_104, 1, x_145, σ_143, ρ_103⟩ _ _ _ ⟨(by omega), (by omega), hB, hS, lv_sub hl [0, 1, 2, 4, 6, 7] rfl⟩ (by show (400 - x_145.toInt).toNat < (400 - i_4.toInt).toNat; omega)
                  · skip
                    have uc_141 := i_ne (n := 43) (by decide) c_141
                    refine lv_iload hx hb dX7_sum_100 (lv_at hl 1 rfl) ?_
                    refine lv_bipush (v := 45) hx hb dX7_sum_102 (by decide) ?_
                    refine lv_icmp_ne (tgt := 111) hx hb dX7_sum_104 (by decide) (fun c_146 => ?_) (fun c_146 => ?_)
                    · skip
                      have uc_146 := i_ne (n := 45) (by decide) c_146
                      refine lv_iconst (v := 0) hx hb dX7_sum_111 (by decide) ?_
                      refine lv_istore (lv' := [(7, .int 0), (2, .int 0), (6, .int x_104), (5, .int i_4), (4, .int i_3), (3, .int i_2), (0, .ref h0), (1, .ref h1)]) hx hb dX7_sum_112 hl (by decide) rfl (fun ls hl => ?_)
                      refine lv_iload hx hb dX7_sum_114 (lv_at hl 0 rfl) ?_
                      refine lv_if_eq (tgt := 124) hx hb dX7_sum_116 (by decide) (fun _ => ?_) (fun c9 => absurd (by decide) c9)
                      refine lv_iload_n hx hb dX7_sum_124 rfl (lv_at hl 5 rfl) ?_
                      refine lv_istore_n (lv' := [(3, .int i_2), (7, .int 0), (2, .int 0), (6, .int x_104), (5, .int i_4), (4, .int i_3), (0, .ref h0), (1, .ref h1)]) hx hb dX7_sum_125 rfl hl (by decide) rfl (fun ls hl => ?_)
                      refine lv_iload hx hb dX7_sum_126 (lv_at hl 1 rfl) ?_
                      refine lv_if_ne (tgt := 135) hx hb dX7_sum_128 (by decide) (fun c9 => absurd (by decide) c9) (fun _ => ?_)
                      refine lv_iload_n hx hb dX7_sum_131 rfl (lv_at hl 2 rfl) ?_
                      refine lv_if_eq (tgt := 139) hx hb dX7_sum_132 (by decide) (fun _ => ?_) (fun c9 => absurd (by decide) c9)
                      refine lv_iconst (v := 0) hx hb dX7_sum_139 (by decide) ?_
                      refine lv_istore (lv' := [(4, .int 0), (3, .int i_2), (7, .int 0), (2, .int 0), (6, .int x_104), (5, .int i_4), (0, .ref h0), (1, .ref h1)]) hx hb dX7_sum_140 hl (by decide) rfl (fun ls hl => ?_)
                      refine lv_iload hx hb dX7_sum_142 (lv_at hl 0 rfl) ?_
                      refine lv_if_eq (tgt := 157) hx hb dX7_sum_144 (by decide) (fun _ => ?_) (fun c9 => absurd (by decide) c9)
                      obtain ⟨x_147, ex_147⟩ : ∃ y : Int32, y = i_4 + 1 := ⟨_, rfl⟩
                      have vx_147 := b_add (rfl : i_4.toInt = _) (by decide : (1 : Int32).toInt = 1) ex_147 (by omega) (by omega)
                      refine lv_iinc (v := x_147) (lv' := [(5, .int x_147), (4, .int 0), (3, .int i_2), (7, .int 0), (2, .int 0), (6, .int x_104), (0, .ref h0), (1, .ref h1)]) hx hb dX7_sum_157 hl (k := 5) rfl (by rw [ex_147]; rfl) (by decide) rfl (fun ls hl => ?_)
                      refine lv_goto (tgt := 10) hx hb dX7_sum_160 (by decide) ?_
                      exact ih_7 ⟨0, i_2, 0, x_147, σ_98, ρ_103⟩ _ _ _ ⟨(by omega), (by omega), hB, hS, lv_sub hl [0, 1, 2, 4, 6, 7] rfl⟩ (by show (400 - x_147.toInt).toNat < (400 - i_4.toInt).toNat; omega)
                    · skip
                      have uc_146 := i_eq (n := 45) (by decide) c_146
                      refine lv_iconst (v := 1) hx hb dX7_sum_107 (by decide) ?_
                      refine lv_goto (tgt := 112) hx hb dX7_sum_108 (by decide) ?_
                      refine lv_istore (lv' := [(7, .int 1), (2, .int 0), (6, .int x_104), (5, .int i_4), (4, .int i_3), (3, .int i_2), (0, .ref h0), (1, .ref h1)]) hx hb dX7_sum_112 hl (by decide) rfl (fun ls hl => ?_)
                      refine lv_iload hx hb dX7_sum_114 (lv_at hl 0 rfl) ?_
                      refine lv_if_eq (tgt := 124) hx hb dX7_sum_116 (by decide) (fun c9 => absurd c9 (by decide)) (fun _ => ?_)
                      refine lv_iload hx hb dX7_sum_119 (lv_at hl 2 rfl) ?_
                      refine lv_goto (tgt := 125) hx hb dX7_sum_121 (by decide) ?_
                      refine lv_istore_n (lv' := [(3, .int x_104), (7, .int 1), (2, .int 0), (6, .int x_104), (5, .int i_4), (4, .int i_3), (0, .ref h0), (1, .ref h1)]) hx hb dX7_sum_125 rfl hl (by decide) rfl (fun ls hl => ?_)
                      refine lv_iload hx hb dX7_sum_126 (lv_at hl 1 rfl) ?_
                      refine lv_if_ne (tgt := 135) hx hb dX7_sum_128 (by decide) (fun _ => ?_) (fun c9 => absurd c9 (by decide))
                      refine lv_iconst (v := 1) hx hb dX7_sum_135 (by decide) ?_
                      refine lv_goto (tgt := 140) hx hb dX7_sum_136 (by decide) ?_
                      refine lv_istore (lv' := [(4, .int 1), (3, .int x_104), (7, .int 1), (2, .int 0), (6, .int x_104), (5, .int i_4), (0, .ref h0), (1, .ref h1)]) hx hb dX7_sum_140 hl (by decide) rfl (fun ls hl => ?_)
                      refine lv_iload hx hb dX7_sum_142 (lv_at hl 0 rfl) ?_
                      refine lv_if_eq (tgt := 157) hx hb dX7_sum_144 (by decide) (fun c9 => absurd c9 (by decide)) (fun _ => ?_)
                      refine lv_aload_n hx hb dX7_sum_147 rfl (lv_at hl 6 rfl) ?_
                      refine lv_dup hx hb dX7_sum_148 rfl ?_
                      refine t_gv hx hb hts hown hK hB mh0 th0 fi_7_6 ex_101.symm mw_2_188 dX7_sum_149 ?_
                      refine lv_iconst (v := 1) hx hb dX7_sum_152 (by decide) ?_
                      refine lv_iadd hx hb dX7_sum_153 ?_
                      refine lv_topi (fun x_148 ex_148 => ?_)
                      refine t_pi hx hb hts hown hK hLA hB hS mh0 th0 fi_7_6 rfl rfl rfl (i_lo _) (i_hi _) (Or.inl (by decide)) mw_2_188 dX7_sum_154 (fun H locs σ_149 eσ_149 hB hS => ?_)
                      have k_150 : σ_149 h0 6 = x_148 := by rw [eσ_149]; exact up2_same _ _ _ _
                      obtain ⟨x_151, ex_151⟩ : ∃ y : Int32, y = i_4 + 1 := ⟨_, rfl⟩
                      have vx_151 := b_add (rfl : i_4.toInt = _) (by decide : (1 : Int32).toInt = 1) ex_151 (by omega) (by omega)
                      refine lv_iinc (v := x_151) (lv' := [(5, .int x_151), (4, .int 1), (3, .int x_104), (7, .int 1), (2, .int 0), (6, .int x_104), (0, .ref h0), (1, .ref h1)]) hx hb dX7_sum_157 hl (k := 5) rfl (by rw [ex_151]; rfl) (by decide) rfl (fun ls hl => ?_)
                      refine lv_goto (tgt := 10) hx hb dX7_sum_160 (by decide) ?_
                      exact ih_7 ⟨0, x_104, 1, x_151, σ_149, ρ_103⟩ _ _ _ ⟨(by omega), (by omega), hB, hS, lv_sub hl [0, 1, 2, 4, 6, 7] rfl⟩ (by show (400 - x_151.toInt).toNat < (400 - i_4.toInt).toNat; omega)
                · skip
                  have uc_140 := i_ne (n := 0) (by decide) c_140
                  refine lv_iload_n hx hb dX7_sum_84 rfl (lv_at hl 0 rfl) ?_
                  refine lv_if_ne (tgt := 93) hx hb dX7_sum_85 (by decide) (fun c9 => absurd (by decide) c9) (fun _ => ?_)
                  refine lv_aload_n hx hb dX7_sum_88 rfl (lv_at hl 5 rfl) ?_
                  refine lv_iload_n hx hb dX7_sum_89 rfl (lv_at hl 4 rfl) ?_
                  refine t_cv (va_runV (As := [.int i_2]) (rest := []) ⟨hx, hb, hml, hown, hts⟩ (cy_X7_emit l D cA L T r hG hLA.1 σ_98 ρ_103 hB.2.1 _ h0 mh0 th0 i_2 (by first | omega | decide) (by first | omega | decide)) (cV hts mv_X7_emit mw_4_46 rfl rfl ⟨Nat.le_of_ble_eq_true rfl, Nat.le_of_ble_eq_true rfl⟩) (pV hB.1 hK hN mh0 th0 (show shp cA 7 _ _ _ = .inr (7, Fs7 _ _ _) from rfl) rfl) rfl rfl hl.1 rfl (lv_room (Nat.le_of_ble_eq_true rfl)) dX7_sum_90 ⟨Nat.le_of_ble_eq_true rfl, Nat.le_of_ble_eq_true rfl⟩) hLA hA hB hS (by decide) (fun σ_152 ρ_153 H locs hB fσ_152 pσ_152 hS => ?_)
                  refine lv_iload hx hb dX7_sum_93 (lv_at hl 1 rfl) ?_
                  refine lv_bipush (v := 43) hx hb dX7_sum_95 (by decide) ?_
                  refine lv_icmp_eq (tgt := 107) hx hb dX7_sum_97 (by decide) (fun c_155 => ?_) (fun c_155 => ?_)
                  · skip
                    have uc_155 := i_eq (n := 43) (by decide) c_155
                    refine lv_iconst (v := 1) hx hb dX7_sum_107 (by decide) ?_
                    refine lv_goto (tgt := 112) hx hb dX7_sum_108 (by decide) ?_
                    refine lv_istore (lv' := [(7, .int 1), (2, .int 0), (6, .int x_104), (5, .int i_4), (4, .int i_3), (3, .int i_2), (0, .ref h0), (1, .ref h1)]) hx hb dX7_sum_112 hl (by decide) rfl (fun ls hl => ?_)
                    refine lv_iload hx hb dX7_sum_114 (lv_at hl 0 rfl) ?_
                    refine lv_if_eq (tgt := 124) hx hb dX7_sum_116 (by decide) (fun c9 => absurd c9 (by decide)) (fun _ => ?_)
                    refine lv_iload hx hb dX7_sum_119 (lv_at hl 2 rfl) ?_
                    refine lv_goto (tgt := 125) hx hb dX7_sum_121 (by decide) ?_
                    refine lv_istore_n (lv' := [(3, .int x_104), (7, .int 1), (2, .int 0), (6, .int x_104), (5, .int i_4), (4, .int i_3), (0, .ref h0), (1, .ref h1)]) hx hb dX7_sum_125 rfl hl (by decide) rfl (fun ls hl => ?_)
                    refine lv_iload hx hb dX7_sum_126 (lv_at hl 1 rfl) ?_
                    refine lv_if_ne (tgt := 135) hx hb dX7_sum_128 (by decide) (fun _ => ?_) (fun c9 => absurd c9 (by decide))
                    refine lv_iconst (v := 1) hx hb dX7_sum_135 (by decide) ?_
                    refine lv_goto (tgt := 140) hx hb dX7_sum_136 (by decide) ?_
                    refine lv_istore (lv' := [(4, .int 1), (3, .int x_104), (7, .int 1), (2, .int 0), (6, .int x_104), (5, .int i_4), (0, .ref h0), (1, .ref h1)]) hx hb dX7_sum_140 hl (by decide) rfl (fun ls hl => ?_)
                    refine lv_iload hx hb dX7_sum_142 (lv_at hl 0 rfl) ?_
                    refine lv_if_eq (tgt := 157) hx hb dX7_sum_144 (by decide) (fun c9 => absurd c9 (by decide)) (fun _ => ?_)
                    refine lv_aload_n hx hb dX7_sum_147 rfl (lv_at hl 6 rfl) ?_
                    refine lv_dup hx hb dX7_sum_148 rfl ?_
                    have k_156 : σ_152 h0 6 = x_101 := (FR.at fσ_152 th0 (by decide)).trans ex_101.symm
                    refine t_gv hx hb hts hown hK hB mh0 th0 fi_7_6 k_156 mw_2_188 dX7_sum_149 ?_
                    refine lv_iconst (v := 1) hx hb dX7_sum_152 (by decide) ?_
                    refine lv_iadd hx hb dX7_sum_153 ?_
                    refine lv_topi (fun x_157 ex_157 => ?_)
                    refine t_pi hx hb hts hown hK hLA hB hS mh0 th0 fi_7_6 rfl rfl rfl (i_lo _) (i_hi _) (Or.inl (by decide)) mw_2_188 dX7_sum_154 (fun H locs σ_158 eσ_158 hB hS => ?_)
                    have k_159 : σ_158 h0 6 = x_157 := by rw [eσ_158]; exact up2_same _ _ _ _
                    obtain ⟨x_160, ex_160⟩ : ∃ y : Int32, y = i_4 + 1 := ⟨_, rfl⟩
                    have vx_160 := b_add (rfl : i_4.toInt = _) (by decide : (1 : Int32).toInt = 1) ex_160 (by omega) (by omega)
                    refine lv_iinc (v := x_160) (lv' := [(5, .int x_160), (4, .int 1), (3, .int x_104), (7, .int 1), (2, .int 0), (6, .int x_104), (0, .ref h0), (1, .ref h1)]) hx hb dX7_sum_157 hl (k := 5) rfl (by rw [ex_160]; rfl) (by decide) rfl (fun ls hl => ?_)
                    refine lv_goto (tgt := 10) hx hb dX7_sum_160 (by decide) ?_
                    exact ih_7 ⟨0, x_104, 1, x_160, σ_158, ρ_153⟩ _ _ _ ⟨(by omega), (by omega), hB, hS, lv_sub hl [0, 1, 2, 4, 6, 7] rfl⟩ (by show (400 - x_160.toInt).toNat < (400 - i_4.toInt).toNat; omega)
                  · skip
                    have uc_155 := i_ne (n := 43) (by decide) c_155
                    refine lv_iload hx hb dX7_sum_100 (lv_at hl 1 rfl) ?_
                    refine lv_bipush (v := 45) hx hb dX7_sum_102 (by decide) ?_
                    refine lv_icmp_ne (tgt := 111) hx hb dX7_sum_104 (by decide) (fun c_161 => ?_) (fun c_161 => ?_)
                    · skip
                      have uc_161 := i_ne (n := 45) (by decide) c_161
                      refine lv_iconst (v := 0) hx hb dX7_sum_111 (by decide) ?_
                      refine lv_istore (lv' := [(7, .int 0), (2, .int 0), (6, .int x_104), (5, .int i_4), (4, .int i_3), (3, .int i_2), (0, .ref h0), (1, .ref h1)]) hx hb dX7_sum_112 hl (by decide) rfl (fun ls hl => ?_)
                      refine lv_iload hx hb dX7_sum_114 (lv_at hl 0 rfl) ?_
                      refine lv_if_eq (tgt := 124) hx hb dX7_sum_116 (by decide) (fun _ => ?_) (fun c9 => absurd (by decide) c9)
                      refine lv_iload_n hx hb dX7_sum_124 rfl (lv_at hl 5 rfl) ?_
                      refine lv_istore_n (lv' := [(3, .int i_2), (7, .int 0), (2, .int 0), (6, .int x_104), (5, .int i_4), (4, .int i_3), (0, .ref h0), (1, .ref h1)]) hx hb dX7_sum_125 rfl hl (by decide) rfl (fun ls hl => ?_)
                      refine lv_iload hx hb dX7_sum_126 (lv_at hl 1 rfl) ?_
                      refine lv_if_ne (tgt := 135) hx hb dX7_sum_128 (by decide) (fun c9 => absurd (by decide) c9) (fun _ => ?_)
                      refine lv_iload_n hx hb dX7_sum_131 rfl (lv_at hl 2 rfl) ?_
                      refine lv_if_eq (tgt := 139) hx hb dX7_sum_132 (by decide) (fun _ => ?_) (fun c9 => absurd (by decide) c9)
                      refine lv_iconst (v := 0) hx hb dX7_sum_139 (by decide) ?_
                      refine lv_istore (lv' := [(4, .int 0), (3, .int i_2), (7, .int 0), (2, .int 0), (6, .int x_104), (5, .int i_4), (0, .ref h0), (1, .ref h1)]) hx hb dX7_sum_140 hl (by decide) rfl (fun ls hl => ?_)
                      refine lv_iload hx hb dX7_sum_142 (lv_at hl 0 rfl) ?_
                      refine lv_if_eq (tgt := 157) hx hb dX7_sum_144 (by decide) (fun _ => ?_) (fun c9 => absurd (by decide) c9)
                      obtain ⟨x_162, ex_162⟩ : ∃ y : Int32, y = i_4 + 1 := ⟨_, rfl⟩
                      have vx_162 := b_add (rfl : i_4.toInt = _) (by decide : (1 : Int32).toInt = 1) ex_162 (by omega) (by omega)
                      refine lv_iinc (v := x_162) (lv' := [(5, .int x_162), (4, .int 0), (3, .int i_2), (7, .int 0), (2, .int 0), (6, .int x_104), (0, .ref h0), (1, .ref h1)]) hx hb dX7_sum_157 hl (k := 5) rfl (by rw [ex_162]; rfl) (by decide) rfl (fun ls hl => ?_)
                      refine lv_goto (tgt := 10) hx hb dX7_sum_160 (by decide) ?_
                      exact ih_7 ⟨0, i_2, 0, x_162, σ_152, ρ_153⟩ _ _ _ ⟨(by omega), (by omega), hB, hS, lv_sub hl [0, 1, 2, 4, 6, 7] rfl⟩ (by show (400 - x_162.toInt).toNat < (400 - i_4.toInt).toNat; omega)
                    · skip
                      have uc_161 := i_eq (n := 45) (by decide) c_161
                      refine lv_iconst (v := 1) hx hb dX7_sum_107 (by decide) ?_
                      refine lv_goto (tgt := 112) hx hb dX7_sum_108 (by decide) ?_
                      refine lv_istore (lv' := [(7, .int 1), (2, .int 0), (6, .int x_104), (5, .int i_4), (4, .int i_3), (3, .int i_2), (0, .ref h0), (1, .ref h1)]) hx hb dX7_sum_112 hl (by decide) rfl (fun ls hl => ?_)
                      refine lv_iload hx hb dX7_sum_114 (lv_at hl 0 rfl) ?_
                      refine lv_if_eq (tgt := 124) hx hb dX7_sum_116 (by decide) (fun c9 => absurd c9 (by decide)) (fun _ => ?_)
                      refine lv_iload hx hb dX7_sum_119 (lv_at hl 2 rfl) ?_
                      refine lv_goto (tgt := 125) hx hb dX7_sum_121 (by decide) ?_
                      refine lv_istore_n (lv' := [(3, .int x_104), (7, .int 1), (2, .int 0), (6, .int x_104), (5, .int i_4), (4, .int i_3), (0, .ref h0), (1, .ref h1)]) hx hb dX7_sum_125 rfl hl (by decide) rfl (fun ls hl => ?_)
                      refine lv_iload hx hb dX7_sum_126 (lv_at hl 1 rfl) ?_
                      refine lv_if_ne (tgt := 135) hx hb dX7_sum_128 (by decide) (fun _ => ?_) (fun c9 => absurd c9 (by decide))
                      refine lv_iconst (v := 1) hx hb dX7_sum_135 (by decide) ?_
                      refine lv_goto (tgt := 140) hx hb dX7_sum_136 (by decide) ?_
                      refine lv_istore (lv' := [(4, .int 1), (3, .int x_104), (7, .int 1), (2, .int 0), (6, .int x_104), (5, .int i_4), (0, .ref h0), (1, .ref h1)]) hx hb dX7_sum_140 hl (by decide) rfl (fun ls hl => ?_)
                      refine lv_iload hx hb dX7_sum_142 (lv_at hl 0 rfl) ?_
                      refine lv_if_eq (tgt := 157) hx hb dX7_sum_144 (by decide) (fun c9 => absurd c9 (by decide)) (fun _ => ?_)
                      refine lv_aload_n hx hb dX7_sum_147 rfl (lv_at hl 6 rfl) ?_
                      refine lv_dup hx hb dX7_sum_148 rfl ?_
                      have k_163 : σ_152 h0 6 = x_101 := (FR.at fσ_152 th0 (by decide)).trans ex_101.symm
                      refine t_gv hx hb hts hown hK hB mh0 th0 fi_7_6 k_163 mw_2_188 dX7_sum_149 ?_
                      refine lv_iconst (v := 1) hx hb dX7_sum_152 (by decide) ?_
                      refine lv_iadd hx hb dX7_sum_153 ?_
                      refine lv_topi (fun x_164 ex_164 => ?_)
                      refine t_pi hx hb hts hown hK hLA hB hS mh0 th0 fi_7_6 rfl rfl rfl (i_lo _) (i_hi _) (Or.inl (by decide)) mw_2_188 dX7_sum_154 (fun H locs σ_165 eσ_165 hB hS => ?_)
                      have k_166 : σ_165 h0 6 = x_164 := by rw [eσ_165]; exact up2_same _ _ _ _
                      obtain ⟨x_167, ex_167⟩ : ∃ y : Int32, y = i_4 + 1 := ⟨_, rfl⟩
                      have vx_167 := b_add (rfl : i_4.toInt = _) (by decide : (1 : Int32).toInt = 1) ex_167 (by omega) (by omega)
                      refine lv_iinc (v := x_167) (lv' := [(5, .int x_167), (4, .int 1), (3, .int x_104), (7, .int 1), (2, .int 0), (6, .int x_104), (0, .ref h0), (1, .ref h1)]) hx hb dX7_sum_157 hl (k := 5) rfl (by rw [ex_167]; rfl) (by decide) rfl (fun ls hl => ?_)
                      refine lv_goto (tgt := 10) hx hb dX7_sum_160 (by decide) ?_
                      exact ih_7 ⟨0, x_104, 1, x_167, σ_165, ρ_153⟩ _ _ _ ⟨(by omega), (by omega), hB, hS, lv_sub hl [0, 1, 2, 4, 6, 7] rfl⟩ (by show (400 - x_167.toInt).toNat < (400 - i_4.toInt).toNat; omega)
              · skip
                have uc_139 := i_eq (n := 37) (by decide) c_139
                refine lv_iload hx hb dX7_sum_73 (lv_at hl 0 rfl) ?_
                refine lv_goto (tgt := 79) hx hb dX7_sum_75 (by decide) ?_
                refine lv_istore_n (lv' := [(2, .int x_104), (6, .int x_104), (5, .int i_4), (4, .int i_3), (3, .int i_2), (0, .ref h0), (1, .ref h1)]) hx hb dX7_sum_79 rfl hl (by decide) rfl (fun ls hl => ?_)
                refine lv_iload_n hx hb dX7_sum_80 rfl (lv_at hl 4 rfl) ?_
                refine lv_if_eq (tgt := 93) hx hb dX7_sum_81 (by decide) (fun c_168 => ?_) (fun c_168 => ?_)
                · skip
                  have uc_168 := i_eq (n := 0) (by decide) c_168
                  refine lv_iload hx hb dX7_sum_93 (lv_at hl 1 rfl) ?_
                  refine lv_bipush (v := 43) hx hb dX7_sum_95 (by decide) ?_
                  refine lv_icmp_eq (tgt := 107) hx hb dX7_sum_97 (by decide) (fun c_169 => ?_) (fun c_169 => ?_)
                  · skip
                    have uc_169 := i_eq (n := 43) (by decide) c_169
                    exfalso; omega
                  · skip
                    have uc_169 := i_ne (n := 43) (by decide) c_169
                    refine lv_iload hx hb dX7_sum_100 (lv_at hl 1 rfl) ?_
                    refine lv_bipush (v := 45) hx hb dX7_sum_102 (by decide) ?_
                    refine lv_icmp_ne (tgt := 111) hx hb dX7_sum_104 (by decide) (fun c_170 => ?_) (fun c_170 => ?_)
                    · skip
                      have uc_170 := i_ne (n := 45) (by decide) c_170
                      refine lv_iconst (v := 0) hx hb dX7_sum_111 (by decide) ?_
                      refine lv_istore (lv' := [(7, .int 0), (2, .int x_104), (6, .int x_104), (5, .int i_4), (4, .int i_3), (3, .int i_2), (0, .ref h0), (1, .ref h1)]) hx hb dX7_sum_112 hl (by decide) rfl (fun ls hl => ?_)
                      refine lv_iload hx hb dX7_sum_114 (lv_at hl 0 rfl) ?_
                      refine lv_if_eq (tgt := 124) hx hb dX7_sum_116 (by decide) (fun _ => ?_) (fun c9 => absurd (by decide) c9)
                      refine lv_iload_n hx hb dX7_sum_124 rfl (lv_at hl 5 rfl) ?_
                      refine lv_istore_n (lv' := [(3, .int i_2), (7, .int 0), (2, .int x_104), (6, .int x_104), (5, .int i_4), (4, .int i_3), (0, .ref h0), (1, .ref h1)]) hx hb dX7_sum_125 rfl hl (by decide) rfl (fun ls hl => ?_)
                      refine lv_iload hx hb dX7_sum_126 (lv_at hl 1 rfl) ?_
                      refine lv_if_ne (tgt := 135) hx hb dX7_sum_128 (by decide) (fun c9 => absurd (by decide) c9) (fun _ => ?_)
                      refine lv_iload_n hx hb dX7_sum_131 rfl (lv_at hl 2 rfl) ?_
                      refine lv_if_eq (tgt := 139) hx hb dX7_sum_132 (by decide) (fun c_171 => ?_) (fun c_171 => ?_)
                      · skip
                        have uc_171 := i_eq (n := 0) (by decide) c_171
                        exfalso; omega
                      · skip
                        have uc_171 := i_ne (n := 0) (by decide) c_171
                        refine lv_iconst (v := 1) hx hb dX7_sum_135 (by decide) ?_
                        refine lv_goto (tgt := 140) hx hb dX7_sum_136 (by decide) ?_
                        refine lv_istore (lv' := [(4, .int 1), (3, .int i_2), (7, .int 0), (2, .int x_104), (6, .int x_104), (5, .int i_4), (0, .ref h0), (1, .ref h1)]) hx hb dX7_sum_140 hl (by decide) rfl (fun ls hl => ?_)
                        refine lv_iload hx hb dX7_sum_142 (lv_at hl 0 rfl) ?_
                        refine lv_if_eq (tgt := 157) hx hb dX7_sum_144 (by decide) (fun c9 => absurd c9 (by decide)) (fun _ => ?_)
                        refine lv_aload_n hx hb dX7_sum_147 rfl (lv_at hl 6 rfl) ?_
                        refine lv_dup hx hb dX7_sum_148 rfl ?_
                        refine t_gv hx hb hts hown hK hB mh0 th0 fi_7_6 ex_101.symm mw_2_188 dX7_sum_149 ?_
                        refine lv_iconst (v := 1) hx hb dX7_sum_152 (by decide) ?_
                        refine lv_iadd hx hb dX7_sum_153 ?_
                        refine lv_topi (fun x_172 ex_172 => ?_)
                        refine t_pi hx hb hts hown hK hLA hB hS mh0 th0 fi_7_6 rfl rfl rfl (i_lo _) (i_hi _) (Or.inl (by decide)) mw_2_188 dX7_sum_154 (fun H locs σ_173 eσ_173 hB hS => ?_)
                        have k_174 : σ_173 h0 6 = x_172 := by rw [eσ_173]; exact up2_same _ _ _ _
                        obtain ⟨x_175, ex_175⟩ : ∃ y : Int32, y = i_4 + 1 := ⟨_, rfl⟩
                        have vx_175 := b_add (rfl : i_4.toInt = _) (by decide : (1 : Int32).toInt = 1) ex_175 (by omega) (by omega)
                        refine lv_iinc (v := x_175) (lv' := [(5, .int x_175), (4, .int 1), (3, .int i_2), (7, .int 0), (2, .int x_104), (6, .int x_104), (0, .ref h0), (1, .ref h1)]) hx hb dX7_sum_157 hl (k := 5) rfl (by rw [ex_175]; rfl) (by decide) rfl (fun ls hl => ?_)
                        refine lv_goto (tgt := 10) hx hb dX7_sum_160 (by decide) ?_
                        exact ih_7 ⟨x_104, i_2, 1, x_175, σ_173, ρ_103⟩ _ _ _ ⟨(by omega), (by omega), hB, hS, lv_sub hl [0, 1, 2, 4, 6, 7] rfl⟩ (by show (400 - x_175.toInt).toNat < (400 - i_4.toInt).toNat; omega)
                    · skip
                      have uc_170 := i_eq (n := 45) (by decide) c_170
                      exfalso; omega
                · skip
                  have uc_168 := i_ne (n := 0) (by decide) c_168
                  refine lv_iload_n hx hb dX7_sum_84 rfl (lv_at hl 0 rfl) ?_
                  refine lv_if_ne (tgt := 93) hx hb dX7_sum_85 (by decide) (fun c_176 => ?_) (fun c_176 => ?_)
                  · skip
                    have uc_176 := i_ne (n := 0) (by decide) c_176
                    refine lv_iload hx hb dX7_sum_93 (lv_at hl 1 rfl) ?_
                    refine lv_bipush (v := 43) hx hb dX7_sum_95 (by decide) ?_
                    refine lv_icmp_eq (tgt := 107) hx hb dX7_sum_97 (by decide) (fun c_177 => ?_) (fun c_177 => ?_)
                    · skip
                      have uc_177 := i_eq (n := 43) (by decide) c_177
                      exfalso; omega
                    · skip
                      have uc_177 := i_ne (n := 43) (by decide) c_177
                      refine lv_iload hx hb dX7_sum_100 (lv_at hl 1 rfl) ?_
                      refine lv_bipush (v := 45) hx hb dX7_sum_102 (by decide) ?_
                      refine lv_icmp_ne (tgt := 111) hx hb dX7_sum_104 (by decide) (fun c_178 => ?_) (fun c_178 => ?_)
                      · skip
                        have uc_178 := i_ne (n := 45) (by decide) c_178
                        refine lv_iconst (v := 0) hx hb dX7_sum_111 (by decide) ?_
                        refine lv_istore (lv' := [(7, .int 0), (2, .int x_104), (6, .int x_104), (5, .int i_4), (4, .int i_3), (3, .int i_2), (0, .ref h0), (1, .ref h1)]) hx hb dX7_sum_112 hl (by decide) rfl (fun ls hl => ?_)
                        refine lv_iload hx hb dX7_sum_114 (lv_at hl 0 rfl) ?_
                        refine lv_if_eq (tgt := 124) hx hb dX7_sum_116 (by decide) (fun _ => ?_) (fun c9 => absurd (by decide) c9)
                        refine lv_iload_n hx hb dX7_sum_124 rfl (lv_at hl 5 rfl) ?_
                        refine lv_istore_n (lv' := [(3, .int i_2), (7, .int 0), (2, .int x_104), (6, .int x_104), (5, .int i_4), (4, .int i_3), (0, .ref h0), (1, .ref h1)]) hx hb dX7_sum_125 rfl hl (by decide) rfl (fun ls hl => ?_)
                        refine lv_iload hx hb dX7_sum_126 (lv_at hl 1 rfl) ?_
                        refine lv_if_ne (tgt := 135) hx hb dX7_sum_128 (by decide) (fun c9 => absurd (by decide) c9) (fun _ => ?_)
                        refine lv_iload_n hx hb dX7_sum_131 rfl (lv_at hl 2 rfl) ?_
                        refine lv_if_eq (tgt := 139) hx hb dX7_sum_132 (by decide) (fun c_179 => ?_) (fun c_179 => ?_)
                        · skip
                          have uc_179 := i_eq (n := 0) (by decide) c_179
                          exfalso; omega
                        · skip
                          have uc_179 := i_ne (n := 0) (by decide) c_179
                          refine lv_iconst (v := 1) hx hb dX7_sum_135 (by decide) ?_
                          refine lv_goto (tgt := 140) hx hb dX7_sum_136 (by decide) ?_
                          refine lv_istore (lv' := [(4, .int 1), (3, .int i_2), (7, .int 0), (2, .int x_104), (6, .int x_104), (5, .int i_4), (0, .ref h0), (1, .ref h1)]) hx hb dX7_sum_140 hl (by decide) rfl (fun ls hl => ?_)
                          refine lv_iload hx hb dX7_sum_142 (lv_at hl 0 rfl) ?_
                          refine lv_if_eq (tgt := 157) hx hb dX7_sum_144 (by decide) (fun c9 => absurd c9 (by decide)) (fun _ => ?_)
                          refine lv_aload_n hx hb dX7_sum_147 rfl (lv_at hl 6 rfl) ?_
                          refine lv_dup hx hb dX7_sum_148 rfl ?_
                          refine t_gv hx hb hts hown hK hB mh0 th0 fi_7_6 ex_101.symm mw_2_188 dX7_sum_149 ?_
                          refine lv_iconst (v := 1) hx hb dX7_sum_152 (by decide) ?_
                          refine lv_iadd hx hb dX7_sum_153 ?_
                          refine lv_topi (fun x_180 ex_180 => ?_)
                          refine t_pi hx hb hts hown hK hLA hB hS mh0 th0 fi_7_6 rfl rfl rfl (i_lo _) (i_hi _) (Or.inl (by decide)) mw_2_188 dX7_sum_154 (fun H locs σ_181 eσ_181 hB hS => ?_)
                          have k_182 : σ_181 h0 6 = x_180 := by rw [eσ_181]; exact up2_same _ _ _ _
                          obtain ⟨x_183, ex_183⟩ : ∃ y : Int32, y = i_4 + 1 := ⟨_, rfl⟩
                          have vx_183 := b_add (rfl : i_4.toInt = _) (by decide : (1 : Int32).toInt = 1) ex_183 (by omega) (by omega)
                          refine lv_iinc (v := x_183) (lv' := [(5, .int x_183), (4, .int 1), (3, .int i_2), (7, .int 0), (2, .int x_104), (6, .int x_104), (0, .ref h0), (1, .ref h1)]) hx hb dX7_sum_157 hl (k := 5) rfl (by rw [ex_183]; rfl) (by decide) rfl (fun ls hl => ?_)
                          refine lv_goto (tgt := 10) hx hb dX7_sum_160 (by decide) ?_
                          exact ih_7 ⟨x_104, i_2, 1, x_183, σ_181, ρ_103⟩ _ _ _ ⟨(by omega), (by omega), hB, hS, lv_sub hl [0, 1, 2, 4, 6, 7] rfl⟩ (by show (400 - x_183.toInt).toNat < (400 - i_4.toInt).toNat; omega)
                      · skip
                        have uc_178 := i_eq (n := 45) (by decide) c_178
                        exfalso; omega
                  · skip
                    have uc_176 := i_eq (n := 0) (by decide) c_176
                    exfalso; omega
      · skip
        have uc_13 := i_eq (n := 0) (by decide) c_13
        refine lv_iconst (v := 0) hx hb dX7_sum_31 (by decide) ?_
        exact W.zret (v := 0) hx hb hr rfl (fun t ht hW => ⟨⟨0, (σ_10, ρ_11), rfl, ⟨hB.2.1, hB.2.2, (show 0 ≤ (0 : Int32).toInt ∧ (0 : Int32).toInt ≤ 1 from ⟨by decide, by decide⟩)⟩, (show TP D cA L T r σ_10 ρ_11 t.heap from by rw [ht]; exact hB.1)⟩, hS.F ht⟩) hS.2.2 dX7_sum_32
theorem mw_4_35 : (.instanceMethod yX7_sum : Cond) ∈ wsA := wsA_t (List.mem_append_right _ (List.mem_append_right _ (List.mem_append_right _ (List.mem_append_left _ (List.mem_of_getElem? (l := tables_1_4) (i := 35) rfl))))) rfl
theorem mp_2_0 : (.selects RX7 yX7_sum yX7_sum : Cond) ∈ wsA := wsA_p (q := (yX7_sum, 8)) (List.mem_append_right _ (List.mem_append_left _ (List.mem_of_getElem? (l := lw_privs_2) (i := 0) rfl)))
theorem mw_4_36 : (.code yX7_sum cX7_sum 8 (some .boolean) : Cond) ∈ wsA := wsA_t (List.mem_append_right _ (List.mem_append_right _ (List.mem_append_right _ (List.mem_append_left _ (List.mem_of_getElem? (l := tables_1_4) (i := 36) rfl))))) rfl
theorem mw_4_33 : (.methodLink RX7 46 yX7_sum : Cond) ∈ wsA := wsA_t (List.mem_append_right _ (List.mem_append_right _ (List.mem_append_right _ (List.mem_append_left _ (List.mem_of_getElem? (l := tables_1_4) (i := 33) rfl))))) rfl
theorem dX7_comparison_0 : decode cX7_comparison 0 = .ok (.aload_n 0, 1) := by decide +kernel
theorem dX7_comparison_1 : decode cX7_comparison 1 = .ok (.aload_n 1, 1) := by decide +kernel
theorem dX7_comparison_2 : decode cX7_comparison 2 = .ok (.invokevirtual 46, 3) := by decide +kernel
theorem dX7_comparison_5 : decode cX7_comparison 5 = .ok (.ifCond .ne 5, 3) := by decide +kernel
theorem dX7_comparison_10 : decode cX7_comparison 10 = .ok (.aload_n 1, 1) := by decide +kernel
theorem dX7_comparison_11 : decode cX7_comparison 11 = .ok (.aload_n 0, 1) := by decide +kernel
theorem dX7_comparison_12 : decode cX7_comparison 12 = .ok (.getfield 36, 3) := by decide +kernel
theorem dX7_comparison_15 : decode cX7_comparison 15 = .ok (.invokevirtual 60, 3) := by decide +kernel
theorem dX7_comparison_18 : decode cX7_comparison 18 = .ok (.istore_n 2, 1) := by decide +kernel
theorem dX7_comparison_19 : decode cX7_comparison 19 = .ok (.iload_n 2, 1) := by decide +kernel
theorem dX7_comparison_20 : decode cX7_comparison 20 = .ok (.sipush 128, 3) := by decide +kernel
theorem dX7_comparison_23 : decode cX7_comparison 23 = .ok (.if_icmp .eq 10, 3) := by decide +kernel
theorem dX7_comparison_33 : decode cX7_comparison 33 = .ok (.iconst 1, 1) := by decide +kernel
theorem dX7_comparison_34 : decode cX7_comparison 34 = .ok (.goto 4, 3) := by decide +kernel
theorem dX7_comparison_38 : decode cX7_comparison 38 = .ok (.istore_n 3, 1) := by decide +kernel
theorem dX7_comparison_39 : decode cX7_comparison 39 = .ok (.iload_n 3, 1) := by decide +kernel
theorem dX7_comparison_40 : decode cX7_comparison 40 = .ok (.ifCond .ne 31, 3) := by decide +kernel
theorem dX7_comparison_71 : decode cX7_comparison 71 = .ok (.aload_n 0, 1) := by decide +kernel
theorem dX7_comparison_72 : decode cX7_comparison 72 = .ok (.getfield 39, 3) := by decide +kernel
theorem dX7_comparison_75 : decode cX7_comparison 75 = .ok (.bipush 60, 2) := by decide +kernel
theorem dX7_comparison_77 : decode cX7_comparison 77 = .ok (.if_icmp .lt 13, 3) := by decide +kernel
theorem dX7_comparison_90 : decode cX7_comparison 90 = .ok (.aload_n 0, 1) := by decide +kernel
theorem dX7_comparison_91 : decode cX7_comparison 91 = .ok (.dup, 1) := by decide +kernel
theorem dX7_comparison_92 : decode cX7_comparison 92 = .ok (.getfield 39, 3) := by decide +kernel
theorem dX7_comparison_95 : decode cX7_comparison 95 = .ok (.iconst 1, 1) := by decide +kernel
theorem dX7_comparison_96 : decode cX7_comparison 96 = .ok (.iadd, 1) := by decide +kernel
theorem dX7_comparison_97 : decode cX7_comparison 97 = .ok (.putfield 39, 3) := by decide +kernel
theorem dX7_comparison_100 : decode cX7_comparison 100 = .ok (.aload_n 0, 1) := by decide +kernel
theorem dX7_comparison_101 : decode cX7_comparison 101 = .ok (.dup, 1) := by decide +kernel
theorem dX7_comparison_102 : decode cX7_comparison 102 = .ok (.getfield 36, 3) := by decide +kernel
theorem dX7_comparison_105 : decode cX7_comparison 105 = .ok (.iconst 1, 1) := by decide +kernel
theorem dX7_comparison_106 : decode cX7_comparison 106 = .ok (.iadd, 1) := by decide +kernel
theorem dX7_comparison_107 : decode cX7_comparison 107 = .ok (.putfield 36, 3) := by decide +kernel
theorem dX7_comparison_110 : decode cX7_comparison 110 = .ok (.aload_n 0, 1) := by decide +kernel
theorem dX7_comparison_111 : decode cX7_comparison 111 = .ok (.aload_n 1, 1) := by decide +kernel
theorem dX7_comparison_112 : decode cX7_comparison 112 = .ok (.invokevirtual 46, 3) := by decide +kernel
theorem dX7_comparison_115 : decode cX7_comparison 115 = .ok (.ifCond .ne 5, 3) := by decide +kernel
theorem dX7_comparison_120 : decode cX7_comparison 120 = .ok (.aload_n 0, 1) := by decide +kernel
theorem dX7_comparison_121 : decode cX7_comparison 121 = .ok (.iload_n 2, 1) := by decide +kernel
theorem dX7_comparison_122 : decode cX7_comparison 122 = .ok (.invokevirtual 70, 3) := by decide +kernel
theorem dX7_comparison_125 : decode cX7_comparison 125 = .ok (.iconst 1, 1) := by decide +kernel
theorem dX7_comparison_126 : decode cX7_comparison 126 = .ok (.ireturn, 1) := by decide +kernel
theorem dX7_comparison_118 : decode cX7_comparison 118 = .ok (.iconst 0, 1) := by decide +kernel
theorem dX7_comparison_119 : decode cX7_comparison 119 = .ok (.ireturn, 1) := by decide +kernel
theorem dX7_comparison_80 : decode cX7_comparison 80 = .ok (.aload_n 1, 1) := by decide +kernel
theorem dX7_comparison_81 : decode cX7_comparison 81 = .ok (.aload_n 0, 1) := by decide +kernel
theorem dX7_comparison_82 : decode cX7_comparison 82 = .ok (.getfield 36, 3) := by decide +kernel
theorem dX7_comparison_85 : decode cX7_comparison 85 = .ok (.iconst 3, 1) := by decide +kernel
theorem dX7_comparison_86 : decode cX7_comparison 86 = .ok (.invokevirtual 64, 3) := by decide +kernel
theorem dX7_comparison_89 : decode cX7_comparison 89 = .ok (.ireturn, 1) := by decide +kernel
theorem dX7_comparison_26 : decode cX7_comparison 26 = .ok (.iload_n 2, 1) := by decide +kernel
theorem dX7_comparison_27 : decode cX7_comparison 27 = .ok (.sipush 129, 3) := by decide +kernel
theorem dX7_comparison_30 : decode cX7_comparison 30 = .ok (.if_icmp .ne 7, 3) := by decide +kernel
theorem dX7_comparison_37 : decode cX7_comparison 37 = .ok (.iconst 0, 1) := by decide +kernel
theorem dX7_comparison_43 : decode cX7_comparison 43 = .ok (.iload_n 2, 1) := by decide +kernel
theorem dX7_comparison_44 : decode cX7_comparison 44 = .ok (.bipush 60, 2) := by decide +kernel
theorem dX7_comparison_46 : decode cX7_comparison 46 = .ok (.if_icmp .eq 25, 3) := by decide +kernel
theorem dX7_comparison_49 : decode cX7_comparison 49 = .ok (.iload_n 2, 1) := by decide +kernel
theorem dX7_comparison_50 : decode cX7_comparison 50 = .ok (.bipush 61, 2) := by decide +kernel
theorem dX7_comparison_52 : decode cX7_comparison 52 = .ok (.if_icmp .eq 19, 3) := by decide +kernel
theorem dX7_comparison_55 : decode cX7_comparison 55 = .ok (.iload_n 2, 1) := by decide +kernel
theorem dX7_comparison_56 : decode cX7_comparison 56 = .ok (.bipush 62, 2) := by decide +kernel
theorem dX7_comparison_58 : decode cX7_comparison 58 = .ok (.if_icmp .eq 13, 3) := by decide +kernel
theorem dX7_comparison_61 : decode cX7_comparison 61 = .ok (.aload_n 1, 1) := by decide +kernel
theorem dX7_comparison_62 : decode cX7_comparison 62 = .ok (.aload_n 0, 1) := by decide +kernel
theorem dX7_comparison_63 : decode cX7_comparison 63 = .ok (.getfield 36, 3) := by decide +kernel
theorem dX7_comparison_66 : decode cX7_comparison 66 = .ok (.iconst 0, 1) := by decide +kernel
theorem dX7_comparison_67 : decode cX7_comparison 67 = .ok (.invokevirtual 64, 3) := by decide +kernel
theorem dX7_comparison_70 : decode cX7_comparison 70 = .ok (.ireturn, 1) := by decide +kernel
theorem dX7_comparison_8 : decode cX7_comparison 8 = .ok (.iconst 0, 1) := by decide +kernel
theorem dX7_comparison_9 : decode cX7_comparison 9 = .ok (.ireturn, 1) := by decide +kernel
theorem mv_X7_sum : MV RX7 yX7_sum cX7_sum 8 (some .boolean) 1 := ⟨mw_4_35, mp_2_0, mw_1_12, mw_4_36, ⟨rfl, by decide, by decide, by decide +kernel⟩⟩
set_option maxHeartbeats 4000000 in
set_option maxRecDepth 100000 in
theorem cy_X7_comparison (l : Launch) (D : va_G) (cA : Nat → ClassId) (L : List Nat) (T : Nat → Nat) (r : Rg) (hG : GR L T r) (hL : L.Nodup) (σ : Sg) (ρ : Lg) (hW : WT L ry T σ) (sz : Nat) (h0 : Nat) (mh0 : h0 ∈ L) (th0 : T h0 = 7) (h1 : Nat) (mh1 : h1 ∈ L) (th1 : T h1 = 9) : Met l yX7_comparison (.code yX7_comparison cX7_comparison 4 (some .boolean) :: wsA) ({ frames := 3, cells := 0, slots := 0, locals := 73 }) (PR D cA L T r σ ρ sz [.ref h0, .ref h1]) (QI D cA L T r ry [(7, 5), (7, 6), (7, 7), (9, 6), (41, 1000)] σ sz (fun x σ1 => (0 ≤ x.toInt ∧ x.toInt ≤ 1))) 0 0 (dm L sz) := by
  refine Met.ofW (cc := cX7_comparison) (maxL := 4) (ret := (some .boolean)) (by decide) rfl ?_
  intro p e s m args below meth c s₁ B hml hv
  obtain ⟨rfl, hsz, hP, hK, hN⟩ := hv
  have hx := B.exec
  have hb := B.bytes
  have hr := B.returns
  have hts : ∀ w ∈ wsA, w.before _ s = true := fun w h => atoms_spec (ws := .code yX7_comparison cX7_comparison 4 (some .boolean) :: wsA) B.pre w (List.mem_cons_of_mem _ h)
  have hown : s.vm.findClass RX7 = some m.cls := findClass_of_methodNamed B.named
  subst hsz
  have hLA : LA (dm L s.heap.size) L := ⟨hL, fun a h => Or.inl h⟩
  have hA : ∀ q : Nat, s.heap.size ≤ q → dm L s.heap.size q := fun q h => Or.inr h
  have hS : va_S (dm L s.heap.size) s.heap s.heap [] := va_S.rf
  have hB : TS D cA L T r ry [(7, 5), (7, 6), (7, 7), (9, 6), (41, 1000)] σ σ ρ s.heap := ⟨hP, hW, FR.rf⟩
  have hl := lv_entry ([.ref h0, .ref h1]) (n := 4) (Nat.le_of_ble_eq_true rfl)
  rw [lg_entry_eq]
  generalize (lg_sl ([.ref h0, .ref h1]) ++ List.replicate (4 - (lg_sl ([.ref h0, .ref h1])).length) Slot.unset).toArray = ls at hl ⊢
  have hl : lv_has ls 4 [(0, .ref h0), (1, .ref h1)] := hl
  refine lv_aload_n hx hb dX7_comparison_0 rfl (lv_at hl 0 rfl) ?_
  refine lv_aload_n hx hb dX7_comparison_1 rfl (lv_at hl 1 rfl) ?_
  refine t_ci (va_runV (As := [.ref h1]) (rest := []) ⟨hx, hb, hml, hown, hts⟩ (cy_X7_sum l D cA L T r hG hLA.1 σ ρ hB.2.1 _ h0 mh0 th0 h1 mh1 th1) (cV hts mv_X7_sum mw_4_33 rfl rfl ⟨Nat.le_of_ble_eq_true rfl, Nat.le_of_ble_eq_true rfl⟩) (pV hB.1 hK hN mh0 th0 (show shp cA 7 _ _ _ = .inr (7, Fs7 _ _ _) from rfl) rfl) rfl rfl hl.1 rfl (lv_room (Nat.le_of_ble_eq_true rfl)) dX7_comparison_2 ⟨Nat.le_of_ble_eq_true rfl, Nat.le_of_ble_eq_true rfl⟩) hLA hA hB hS (by decide) (fun x_3 σ_1 ρ_2 H locs hB fσ_1 pσ_1 hS => ?_)
  obtain ⟨lx_3, ux_3⟩ := pσ_1
  refine lv_if_ne (tgt := 10) hx hb dX7_comparison_5 (by decide) (fun c_4 => ?_) (fun c_4 => ?_)
  · skip
    have uc_4 := i_ne (n := 0) (by decide) c_4
    refine lv_aload_n hx hb dX7_comparison_10 rfl (lv_at hl 1 rfl) ?_
    refine lv_aload_n hx hb dX7_comparison_11 rfl (lv_at hl 0 rfl) ?_
    refine t_gi hx hb hts hown hK hB mh0 th0 fi_7_6 rfl mw_2_188 dX7_comparison_12 (fun x_5 ex_5 lx_5 ux_5 => ?_)
    refine t_ci (va_runV (As := [.int x_5]) (rest := []) ⟨hx, hb, hml, hown, hts⟩ (cy_X9_kindAt l D cA L T r hG hLA.1 σ_1 ρ_2 hB.2.1 _ h1 mh1 th1 x_5) (cV hts mv_X9_kindAt mw_4_41 rfl rfl ⟨Nat.le_of_ble_eq_true rfl, Nat.le_of_ble_eq_true rfl⟩) (pV hB.1 hK hN mh1 th1 (show shp cA 9 _ _ _ = .inr (9, Fs9 _ _ _) from rfl) rfl) rfl rfl hl.1 rfl (lv_room (Nat.le_of_ble_eq_true rfl)) dX7_comparison_15 ⟨Nat.le_of_ble_eq_true rfl, Nat.le_of_ble_eq_true rfl⟩) hLA hA hB hS (by decide) (fun x_8 σ_6 ρ_7 H locs hB fσ_6 pσ_6 hS => ?_)
    have qσ_6 := FR.nil fσ_6
    subst qσ_6
    obtain ⟨lx_8, ux_8⟩ := pσ_6
    refine lv_istore_n (lv' := [(2, .int x_8), (0, .ref h0), (1, .ref h1)]) hx hb dX7_comparison_18 rfl hl (by decide) rfl (fun ls hl => ?_)
    refine lv_iload_n hx hb dX7_comparison_19 rfl (lv_at hl 0 rfl) ?_
    refine lv_sipush (v := 128) hx hb dX7_comparison_20 (by decide) ?_
    refine lv_icmp_eq (tgt := 33) hx hb dX7_comparison_23 (by decide) (fun c_9 => ?_) (fun c_9 => ?_)
    · skip
      have uc_9 := i_eq (n := 128) (by decide) c_9
      refine lv_iconst (v := 1) hx hb dX7_comparison_33 (by decide) ?_
      refine lv_goto (tgt := 38) hx hb dX7_comparison_34 (by decide) ?_
      refine lv_istore_n (lv' := [(3, .int 1), (2, .int x_8), (0, .ref h0), (1, .ref h1)]) hx hb dX7_comparison_38 rfl hl (by decide) rfl (fun ls hl => ?_)
      refine lv_iload_n hx hb dX7_comparison_39 rfl (lv_at hl 0 rfl) ?_
      refine lv_if_ne (tgt := 71) hx hb dX7_comparison_40 (by decide) (fun _ => ?_) (fun c9 => absurd c9 (by decide))
      refine lv_aload_n hx hb dX7_comparison_71 rfl (lv_at hl 2 rfl) ?_
      refine t_gi hx hb hts hown hK hB mh0 th0 fi_7_7 rfl mw_2_189 dX7_comparison_72 (fun x_10 ex_10 lx_10 ux_10 => ?_)
      refine lv_bipush (v := 60) hx hb dX7_comparison_75 (by decide) ?_
      refine lv_icmp_lt (tgt := 90) hx hb dX7_comparison_77 (by decide) (fun c_11 => ?_) (fun c_11 => ?_)
      · skip
        have uc_11 := i_lt (n := 60) (by decide) c_11
        refine lv_aload_n hx hb dX7_comparison_90 rfl (lv_at hl 2 rfl) ?_
        refine lv_dup hx hb dX7_comparison_91 rfl ?_
        refine t_gv hx hb hts hown hK hB mh0 th0 fi_7_7 ex_10.symm mw_2_189 dX7_comparison_92 ?_
        refine lv_iconst (v := 1) hx hb dX7_comparison_95 (by decide) ?_
        refine lv_iadd hx hb dX7_comparison_96 ?_
        refine lv_topi (fun x_12 ex_12 => ?_)
        have vx_12 := b_add (rfl : x_10.toInt = _) (by decide : (1 : Int32).toInt = 1) ex_12 (by omega) (by omega)
        refine t_pi hx hb hts hown hK hLA hB hS mh0 th0 fi_7_7 rfl rfl rfl (i_lo _) (i_hi _) (Or.inl (by decide)) mw_2_189 dX7_comparison_97 (fun H locs σ_13 eσ_13 hB hS => ?_)
        have k_14 : σ_13 h0 7 = x_12 := by rw [eσ_13]; exact up2_same _ _ _ _
        refine lv_aload_n hx hb dX7_comparison_100 rfl (lv_at hl 2 rfl) ?_
        refine lv_dup hx hb dX7_comparison_101 rfl ?_
        have k_15 : σ_13 h0 6 = x_5 := by rw [eσ_13, up2_nej _ _ (by decide)]; exact ex_5.symm
        refine t_gv hx hb hts hown hK hB mh0 th0 fi_7_6 k_15 mw_2_188 dX7_comparison_102 ?_
        refine lv_iconst (v := 1) hx hb dX7_comparison_105 (by decide) ?_
        refine lv_iadd hx hb dX7_comparison_106 ?_
        refine lv_topi (fun x_16 ex_16 => ?_)
        refine t_pi hx hb hts hown hK hLA hB hS mh0 th0 fi_7_6 rfl rfl rfl (i_lo _) (i_hi _) (Or.inl (by decide)) mw_2_188 dX7_comparison_107 (fun H locs σ_17 eσ_17 hB hS => ?_)
        have k_18 : σ_17 h0 6 = x_16 := by rw [eσ_17]; exact up2_same _ _ _ _
        refine lv_aload_n hx hb dX7_comparison_110 rfl (lv_at hl 2 rfl) ?_
        refine lv_aload_n hx hb dX7_comparison_111 rfl (lv_at hl 3 rfl) ?_
        refine t_ci (va_runV (As := [.ref h1]) (rest := []) ⟨hx, hb, hml, hown, hts⟩ (cy_X7_sum l D cA L T r hG hLA.1 σ_17 ρ_7 hB.2.1 _ h0 mh0 th0 h1 mh1 th1) (cV hts mv_X7_sum mw_4_33 rfl rfl ⟨Nat.le_of_ble_eq_true rfl, Nat.le_of_ble_eq_true rfl⟩) (pV hB.1 hK hN mh0 th0 (show shp cA 7 _ _ _ = .inr (7, Fs7 _ _ _) from rfl) rfl) rfl rfl hl.1 rfl (lv_room (Nat.le_of_ble_eq_true rfl)) dX7_comparison_112 ⟨Nat.le_of_ble_eq_true rfl, Nat.le_of_ble_eq_true rfl⟩) hLA hA hB hS (by decide) (fun x_21 σ_19 ρ_20 H locs hB fσ_19 pσ_19 hS => ?_)
        obtain ⟨lx_21, ux_21⟩ := pσ_19
        refine lv_if_ne (tgt := 120) hx hb dX7_comparison_115 (by decide) (fun c_22 => ?_) (fun c_22 => ?_)
        · skip
          have uc_22 := i_ne (n := 0) (by decide) c_22
          refine lv_aload_n hx hb dX7_comparison_120 rfl (lv_at hl 2 rfl) ?_
          refine lv_iload_n hx hb dX7_comparison_121 rfl (lv_at hl 1 rfl) ?_
          refine t_cv (va_runV (As := [.int x_8]) (rest := []) ⟨hx, hb, hml, hown, hts⟩ (cy_X7_emit l D cA L T r hG hLA.1 σ_19 ρ_20 hB.2.1 _ h0 mh0 th0 x_8 (by first | omega | decide) (by first | omega | decide)) (cV hts mv_X7_emit mw_4_46 rfl rfl ⟨Nat.le_of_ble_eq_true rfl, Nat.le_of_ble_eq_true rfl⟩) (pV hB.1 hK hN mh0 th0 (show shp cA 7 _ _ _ = .inr (7, Fs7 _ _ _) from rfl) rfl) rfl rfl hl.1 rfl (lv_room (Nat.le_of_ble_eq_true rfl)) dX7_comparison_122 ⟨Nat.le_of_ble_eq_true rfl, Nat.le_of_ble_eq_true rfl⟩) hLA hA hB hS (by decide) (fun σ_23 ρ_24 H locs hB fσ_23 pσ_23 hS => ?_)
          refine lv_iconst (v := 1) hx hb dX7_comparison_125 (by decide) ?_
          exact W.zret (v := 1) hx hb hr rfl (fun t ht hW => ⟨⟨1, (σ_23, ρ_24), rfl, ⟨hB.2.1, hB.2.2, (show 0 ≤ (1 : Int32).toInt ∧ (1 : Int32).toInt ≤ 1 from ⟨by decide, by decide⟩)⟩, (show TP D cA L T r σ_23 ρ_24 t.heap from by rw [ht]; exact hB.1)⟩, hS.F ht⟩) hS.2.2 dX7_comparison_126
        · skip
          have uc_22 := i_eq (n := 0) (by decide) c_22
          refine lv_iconst (v := 0) hx hb dX7_comparison_118 (by decide) ?_
          exact W.zret (v := 0) hx hb hr rfl (fun t ht hW => ⟨⟨0, (σ_19, ρ_20), rfl, ⟨hB.2.1, hB.2.2, (show 0 ≤ (0 : Int32).toInt ∧ (0 : Int32).toInt ≤ 1 from ⟨by decide, by decide⟩)⟩, (show TP D cA L T r σ_19 ρ_20 t.heap from by rw [ht]; exact hB.1)⟩, hS.F ht⟩) hS.2.2 dX7_comparison_119
      · skip
        have uc_11 := i_nlt (n := 60) (by decide) c_11
        refine lv_aload_n hx hb dX7_comparison_80 rfl (lv_at hl 3 rfl) ?_
        refine lv_aload_n hx hb dX7_comparison_81 rfl (lv_at hl 2 rfl) ?_
        refine t_gv hx hb hts hown hK hB mh0 th0 fi_7_6 ex_5.symm mw_2_188 dX7_comparison_82 ?_
        refine lv_iconst (v := 3) hx hb dX7_comparison_85 (by decide) ?_
        refine t_ci (va_runV (As := [.int x_5, .int 3]) (rest := []) ⟨hx, hb, hml, hown, hts⟩ (cy_X9_wrong l D cA L T r hG hLA.1 σ_1 ρ_7 hB.2.1 _ h1 mh1 th1 x_5 3 (by first | omega | decide) (by first | omega | decide)) (cV hts mv_X9_wrong mw_4_32 rfl rfl ⟨Nat.le_of_ble_eq_true rfl, Nat.le_of_ble_eq_true rfl⟩) (pV hB.1 hK hN mh1 th1 (show shp cA 9 _ _ _ = .inr (9, Fs9 _ _ _) from rfl) rfl) rfl rfl hl.1 rfl (lv_room (Nat.le_of_ble_eq_true rfl)) dX7_comparison_86 ⟨Nat.le_of_ble_eq_true rfl, Nat.le_of_ble_eq_true rfl⟩) hLA hA hB hS (by decide) (fun x_28 σ_26 ρ_27 H locs hB fσ_26 pσ_26 hS => ?_)
        obtain ⟨g_29, g_30⟩ := pσ_26
        subst g_29
        exact W.zret (v := 0) hx hb hr rfl (fun t ht hW => ⟨⟨0, (σ_26, ρ_27), rfl, ⟨hB.2.1, hB.2.2, (show 0 ≤ (0 : Int32).toInt ∧ (0 : Int32).toInt ≤ 1 from ⟨by decide, by decide⟩)⟩, (show TP D cA L T r σ_26 ρ_27 t.heap from by rw [ht]; exact hB.1)⟩, hS.F ht⟩) hS.2.2 dX7_comparison_89
    · skip
      have uc_9 := i_ne (n := 128) (by decide) c_9
      refine lv_iload_n hx hb dX7_comparison_26 rfl (lv_at hl 0 rfl) ?_
      refine lv_sipush (v := 129) hx hb dX7_comparison_27 (by decide) ?_
      refine lv_icmp_ne (tgt := 37) hx hb dX7_comparison_30 (by decide) (fun c_31 => ?_) (fun c_31 => ?_)
      · skip
        have uc_31 := i_ne (n := 129) (by decide) c_31
        refine lv_iconst (v := 0) hx hb dX7_comparison_37 (by decide) ?_
        refine lv_istore_n (lv' := [(3, .int 0), (2, .int x_8), (0, .ref h0), (1, .ref h1)]) hx hb dX7_comparison_38 rfl hl (by decide) rfl (fun ls hl => ?_)
        refine lv_iload_n hx hb dX7_comparison_39 rfl (lv_at hl 0 rfl) ?_
        refine lv_if_ne (tgt := 71) hx hb dX7_comparison_40 (by decide) (fun c9 => absurd (by decide) c9) (fun _ => ?_)
        refine lv_iload_n hx hb dX7_comparison_43 rfl (lv_at hl 1 rfl) ?_
        refine lv_bipush (v := 60) hx hb dX7_comparison_44 (by decide) ?_
        refine lv_icmp_eq (tgt := 71) hx hb dX7_comparison_46 (by decide) (fun c_32 => ?_) (fun c_32 => ?_)
        · skip
          have uc_32 := i_eq (n := 60) (by decide) c_32
          refine lv_aload_n hx hb dX7_comparison_71 rfl (lv_at hl 2 rfl) ?_
          refine t_gi hx hb hts hown hK hB mh0 th0 fi_7_7 rfl mw_2_189 dX7_comparison_72 (fun x_33 ex_33 lx_33 ux_33 => ?_)
          refine lv_bipush (v := 60) hx hb dX7_comparison_75 (by decide) ?_
          refine lv_icmp_lt (tgt := 90) hx hb dX7_comparison_77 (by decide) (fun c_34 => ?_) (fun c_34 => ?_)
          · skip
            have uc_34 := i_lt (n := 60) (by decide) c_34
            refine lv_aload_n hx hb dX7_comparison_90 rfl (lv_at hl 2 rfl) ?_
            refine lv_dup hx hb dX7_comparison_91 rfl ?_
            refine t_gv hx hb hts hown hK hB mh0 th0 fi_7_7 ex_33.symm mw_2_189 dX7_comparison_92 ?_
            refine lv_iconst (v := 1) hx hb dX7_comparison_95 (by decide) ?_
            refine lv_iadd hx hb dX7_comparison_96 ?_
            refine lv_topi (fun x_35 ex_35 => ?_)
            have vx_35 := b_add (rfl : x_33.toInt = _) (by decide : (1 : Int32).toInt = 1) ex_35 (by omega) (by omega)
            refine t_pi hx hb hts hown hK hLA hB hS mh0 th0 fi_7_7 rfl rfl rfl (i_lo _) (i_hi _) (Or.inl (by decide)) mw_2_189 dX7_comparison_97 (fun H locs σ_36 eσ_36 hB hS => ?_)
            have k_37 : σ_36 h0 7 = x_35 := by rw [eσ_36]; exact up2_same _ _ _ _
            refine lv_aload_n hx hb dX7_comparison_100 rfl (lv_at hl 2 rfl) ?_
            refine lv_dup hx hb dX7_comparison_101 rfl ?_
            have k_38 : σ_36 h0 6 = x_5 := by rw [eσ_36, up2_nej _ _ (by decide)]; exact ex_5.symm
            refine t_gv hx hb hts hown hK hB mh0 th0 fi_7_6 k_38 mw_2_188 dX7_comparison_102 ?_
            refine lv_iconst (v := 1) hx hb dX7_comparison_105 (by decide) ?_
            refine lv_iadd hx hb dX7_comparison_106 ?_
            refine lv_topi (fun x_39 ex_39 => ?_)
            refine t_pi hx hb hts hown hK hLA hB hS mh0 th0 fi_7_6 rfl rfl rfl (i_lo _) (i_hi _) (Or.inl (by decide)) mw_2_188 dX7_comparison_107 (fun H locs σ_40 eσ_40 hB hS => ?_)
            have k_41 : σ_40 h0 6 = x_39 := by rw [eσ_40]; exact up2_same _ _ _ _
            refine lv_aload_n hx hb dX7_comparison_110 rfl (lv_at hl 2 rfl) ?_
            refine lv_aload_n hx hb dX7_comparison_111 rfl (lv_at hl 3 rfl) ?_
            refine t_ci (va_runV (As := [.ref h1]) (rest := []) ⟨hx, hb, hml, hown, hts⟩ (cy_X7_sum l D cA L T r hG hLA.1 σ_40 ρ_7 hB.2.1 _ h0 mh0 th0 h1 mh1 th1) (cV hts mv_X7_sum mw_4_33 rfl rfl ⟨Nat.le_of_ble_eq_true rfl, Nat.le_of_ble_eq_true rfl⟩) (pV hB.1 hK hN mh0 th0 (show shp cA 7 _ _ _ = .inr (7, Fs7 _ _ _) from rfl) rfl) rfl rfl hl.1 rfl (lv_room (Nat.le_of_ble_eq_true rfl)) dX7_comparison_112 ⟨Nat.le_of_ble_eq_true rfl, Nat.le_of_ble_eq_true rfl⟩) hLA hA hB hS (by decide) (fun x_44 σ_42 ρ_43 H locs hB fσ_42 pσ_42 hS => ?_)
            obtain ⟨lx_44, ux_44⟩ := pσ_42
            refine lv_if_ne (tgt := 120) hx hb dX7_comparison_115 (by decide) (fun c_45 => ?_) (fun c_45 => ?_)
            · skip
              have uc_45 := i_ne (n := 0) (by decide) c_45
              refine lv_aload_n hx hb dX7_comparison_120 rfl (lv_at hl 2 rfl) ?_
              refine lv_iload_n hx hb dX7_comparison_121 rfl (lv_at hl 1 rfl) ?_
              refine t_cv (va_runV (As := [.int x_8]) (rest := []) ⟨hx, hb, hml, hown, hts⟩ (cy_X7_emit l D cA L T r hG hLA.1 σ_42 ρ_43 hB.2.1 _ h0 mh0 th0 x_8 (by first | omega | decide) (by first | omega | decide)) (cV hts mv_X7_emit mw_4_46 rfl rfl ⟨Nat.le_of_ble_eq_true rfl, Nat.le_of_ble_eq_true rfl⟩) (pV hB.1 hK hN mh0 th0 (show shp cA 7 _ _ _ = .inr (7, Fs7 _ _ _) from rfl) rfl) rfl rfl hl.1 rfl (lv_room (Nat.le_of_ble_eq_true rfl)) dX7_comparison_122 ⟨Nat.le_of_ble_eq_true rfl, Nat.le_of_ble_eq_true rfl⟩) hLA hA hB hS (by decide) (fun σ_46 ρ_47 H locs hB fσ_46 pσ_46 hS => ?_)
              refine lv_iconst (v := 1) hx hb dX7_comparison_125 (by decide) ?_
              exact W.zret (v := 1) hx hb hr rfl (fun t ht hW => ⟨⟨1, (σ_46, ρ_47), rfl, ⟨hB.2.1, hB.2.2, (show 0 ≤ (1 : Int32).toInt ∧ (1 : Int32).toInt ≤ 1 from ⟨by decide, by decide⟩)⟩, (show TP D cA L T r σ_46 ρ_47 t.heap from by rw [ht]; exact hB.1)⟩, hS.F ht⟩) hS.2.2 dX7_comparison_126
            · skip
              have uc_45 := i_eq (n := 0) (by decide) c_45
              refine lv_iconst (v := 0) hx hb dX7_comparison_118 (by decide) ?_
              exact W.zret (v := 0) hx hb hr rfl (fun t ht hW => ⟨⟨0, (σ_42, ρ_43), rfl, ⟨hB.2.1, hB.2.2, (show 0 ≤ (0 : Int32).toInt ∧ (0 : Int32).toInt ≤ 1 from ⟨by decide, by decide⟩)⟩, (show TP D cA L T r σ_42 ρ_43 t.heap from by rw [ht]; exact hB.1)⟩, hS.F ht⟩) hS.2.2 dX7_comparison_119
          · skip
            have uc_34 := i_nlt (n := 60) (by decide) c_34
            refine lv_aload_n hx hb dX7_comparison_80 rfl (lv_at hl 3 rfl) ?_
            refine lv_aload_n hx hb dX7_comparison_81 rfl (lv_at hl 2 rfl) ?_
            refine t_gv hx hb hts hown hK hB mh0 th0 fi_7_6 ex_5.symm mw_2_188 dX7_comparison_82 ?_
            refine lv_iconst (v := 3) hx hb dX7_comparison_85 (by decide) ?_
            refine t_ci (va_runV (As := [.int x_5, .int 3]) (rest := []) ⟨hx, hb, hml, hown, hts⟩ (cy_X9_wrong l D cA L T r hG hLA.1 σ_1 ρ_7 hB.2.1 _ h1 mh1 th1 x_5 3 (by first | omega | decide) (by first | omega | decide)) (cV hts mv_X9_wrong mw_4_32 rfl rfl ⟨Nat.le_of_ble_eq_true rfl, Nat.le_of_ble_eq_true rfl⟩) (pV hB.1 hK hN mh1 th1 (show shp cA 9 _ _ _ = .inr (9, Fs9 _ _ _) from rfl) rfl) rfl rfl hl.1 rfl (lv_room (Nat.le_of_ble_eq_true rfl)) dX7_comparison_86 ⟨Nat.le_of_ble_eq_true rfl, Nat.le_of_ble_eq_true rfl⟩) hLA hA hB hS (by decide) (fun x_51 σ_49 ρ_50 H locs hB fσ_49 pσ_49 hS => ?_)
            obtain ⟨g_52, g_53⟩ := pσ_49
            subst g_52
            exact W.zret (v := 0) hx hb hr rfl (fun t ht hW => ⟨⟨0, (σ_49, ρ_50), rfl, ⟨hB.2.1, hB.2.2, (show 0 ≤ (0 : Int32).toInt ∧ (0 : Int32).toInt ≤ 1 from ⟨by decide, by decide⟩)⟩, (show TP D cA L T r σ_49 ρ_50 t.heap from by rw [ht]; exact hB.1)⟩, hS.F ht⟩) hS.2.2 dX7_comparison_89
        · skip
          have uc_32 := i_ne (n := 60) (by decide) c_32
          refine lv_iload_n hx hb dX7_comparison_49 rfl (lv_at hl 1 rfl) ?_
          refine lv_bipush (v := 61) hx hb dX7_comparison_50 (by decide) ?_
          refine lv_icmp_eq (tgt := 71) hx hb dX7_comparison_52 (by decide) (fun c_54 => ?_) (fun c_54 => ?_)
          · skip
            have uc_54 := i_eq (n := 61) (by decide) c_54
            refine lv_aload_n hx hb dX7_comparison_71 rfl (lv_at hl 2 rfl) ?_
            refine t_gi hx hb hts hown hK hB mh0 th0 fi_7_7 rfl mw_2_189 dX7_comparison_72 (fun x_55 ex_55 lx_55 ux_55 => ?_)
            refine lv_bipush (v := 60) hx hb dX7_comparison_75 (by decide) ?_
            refine lv_icmp_lt (tgt := 90) hx hb dX7_comparison_77 (by decide) (fun c_56 => ?_) (fun c_56 => ?_)
            · skip
              have uc_56 := i_lt (n := 60) (by decide) c_56
              refine lv_aload_n hx hb dX7_comparison_90 rfl (lv_at hl 2 rfl) ?_
              refine lv_dup hx hb dX7_comparison_91 rfl ?_
              refine t_gv hx hb hts hown hK hB mh0 th0 fi_7_7 ex_55.symm mw_2_189 dX7_comparison_92 ?_
              refine lv_iconst (v := 1) hx hb dX7_comparison_95 (by decide) ?_
              refine lv_iadd hx hb dX7_comparison_96 ?_
              refine lv_topi (fun x_57 ex_57 => ?_)
              have vx_57 := b_add (rfl : x_55.toInt = _) (by decide : (1 : Int32).toInt = 1) ex_57 (by omega) (by omega)
              refine t_pi hx hb hts hown hK hLA hB hS mh0 th0 fi_7_7 rfl rfl rfl (i_lo _) (i_hi _) (Or.inl (by decide)) mw_2_189 dX7_comparison_97 (fun H locs σ_58 eσ_58 hB hS => ?_)
              have k_59 : σ_58 h0 7 = x_57 := by rw [eσ_58]; exact up2_same _ _ _ _
              refine lv_aload_n hx hb dX7_comparison_100 rfl (lv_at hl 2 rfl) ?_
              refine lv_dup hx hb dX7_comparison_101 rfl ?_
              have k_60 : σ_58 h0 6 = x_5 := by rw [eσ_58, up2_nej _ _ (by decide)]; exact ex_5.symm
              refine t_gv hx hb hts hown hK hB mh0 th0 fi_7_6 k_60 mw_2_188 dX7_comparison_102 ?_
              refine lv_iconst (v := 1) hx hb dX7_comparison_105 (by decide) ?_
              refine lv_iadd hx hb dX7_comparison_106 ?_
              refine lv_topi (fun x_61 ex_61 => ?_)
              refine t_pi hx hb hts hown hK hLA hB hS mh0 th0 fi_7_6 rfl rfl rfl (i_lo _) (i_hi _) (Or.inl (by decide)) mw_2_188 dX7_comparison_107 (fun H locs σ_62 eσ_62 hB hS => ?_)
              have k_63 : σ_62 h0 6 = x_61 := by rw [eσ_62]; exact up2_same _ _ _ _
              refine lv_aload_n hx hb dX7_comparison_110 rfl (lv_at hl 2 rfl) ?_
              refine lv_aload_n hx hb dX7_comparison_111 rfl (lv_at hl 3 rfl) ?_
              refine t_ci (va_runV (As := [.ref h1]) (rest := []) ⟨hx, hb, hml, hown, hts⟩ (cy_X7_sum l D cA L T r hG hLA.1 σ_62 ρ_7 hB.2.1 _ h0 mh0 th0 h1 mh1 th1) (cV hts mv_X7_sum mw_4_33 rfl rfl ⟨Nat.le_of_ble_eq_true rfl, Nat.le_of_ble_eq_true rfl⟩) (pV hB.1 hK hN mh0 th0 (show shp cA 7 _ _ _ = .inr (7, Fs7 _ _ _) from rfl) rfl) rfl rfl hl.1 rfl (lv_room (Nat.le_of_ble_eq_true rfl)) dX7_comparison_112 ⟨Nat.le_of_ble_eq_true rfl, Nat.le_of_ble_eq_true rfl⟩) hLA hA hB hS (by decide) (fun x_66 σ_64 ρ_65 H locs hB fσ_64 pσ_64 hS => ?_)
              obtain ⟨lx_66, ux_66⟩ := pσ_64
              refine lv_if_ne (tgt := 120) hx hb dX7_comparison_115 (by decide) (fun c_67 => ?_) (fun c_67 => ?_)
              · skip
                have uc_67 := i_ne (n := 0) (by decide) c_67
                refine lv_aload_n hx hb dX7_comparison_120 rfl (lv_at hl 2 rfl) ?_
                refine lv_iload_n hx hb dX7_comparison_121 rfl (lv_at hl 1 rfl) ?_
                refine t_cv (va_runV (As := [.int x_8]) (rest := []) ⟨hx, hb, hml, hown, hts⟩ (cy_X7_emit l D cA L T r hG hLA.1 σ_64 ρ_65 hB.2.1 _ h0 mh0 th0 x_8 (by first | omega | decide) (by first | omega | decide)) (cV hts mv_X7_emit mw_4_46 rfl rfl ⟨Nat.le_of_ble_eq_true rfl, Nat.le_of_ble_eq_true rfl⟩) (pV hB.1 hK hN mh0 th0 (show shp cA 7 _ _ _ = .inr (7, Fs7 _ _ _) from rfl) rfl) rfl rfl hl.1 rfl (lv_room (Nat.le_of_ble_eq_true rfl)) dX7_comparison_122 ⟨Nat.le_of_ble_eq_true rfl, Nat.le_of_ble_eq_true rfl⟩) hLA hA hB hS (by decide) (fun σ_68 ρ_69 H locs hB fσ_68 pσ_68 hS => ?_)
                refine lv_iconst (v := 1) hx hb dX7_comparison_125 (by decide) ?_
                exact W.zret (v := 1) hx hb hr rfl (fun t ht hW => ⟨⟨1, (σ_68, ρ_69), rfl, ⟨hB.2.1, hB.2.2, (show 0 ≤ (1 : Int32).toInt ∧ (1 : Int32).toInt ≤ 1 from ⟨by decide, by decide⟩)⟩, (show TP D cA L T r σ_68 ρ_69 t.heap from by rw [ht]; exact hB.1)⟩, hS.F ht⟩) hS.2.2 dX7_comparison_126
              · skip
                have uc_67 := i_eq (n := 0) (by decide) c_67
                refine lv_iconst (v := 0) hx hb dX7_comparison_118 (by decide) ?_
                exact W.zret (v := 0) hx hb hr rfl (fun t ht hW => ⟨⟨0, (σ_64, ρ_65), rfl, ⟨hB.2.1, hB.2.2, (show 0 ≤ (0 : Int32).toInt ∧ (0 : Int32).toInt ≤ 1 from ⟨by decide, by decide⟩)⟩, (show TP D cA L T r σ_64 ρ_65 t.heap from by rw [ht]; exact hB.1)⟩, hS.F ht⟩) hS.2.2 dX7_comparison_119
            · skip
              have uc_56 := i_nlt (n := 60) (by decide) c_56
              refine lv_aload_n hx hb dX7_comparison_80 rfl (lv_at hl 3 rfl) ?_
              refine lv_aload_n hx hb dX7_comparison_81 rfl (lv_at hl 2 rfl) ?_
              refine t_gv hx hb hts hown hK hB mh0 th0 fi_7_6 ex_5.symm mw_2_188 dX7_comparison_82 ?_
              refine lv_iconst (v := 3) hx hb dX7_comparison_85 (by decide) ?_
              refine t_ci (va_runV (As := [.int x_5, .int 3]) (rest := []) ⟨hx, hb, hml, hown, hts⟩ (cy_X9_wrong l D cA L T r hG hLA.1 σ_1 ρ_7 hB.2.1 _ h1 mh1 th1 x_5 3 (by first | omega | decide) (by first | omega | decide)) (cV hts mv_X9_wrong mw_4_32 rfl rfl ⟨Nat.le_of_ble_eq_true rfl, Nat.le_of_ble_eq_true rfl⟩) (pV hB.1 hK hN mh1 th1 (show shp cA 9 _ _ _ = .inr (9, Fs9 _ _ _) from rfl) rfl) rfl rfl hl.1 rfl (lv_room (Nat.le_of_ble_eq_true rfl)) dX7_comparison_86 ⟨Nat.le_of_ble_eq_true rfl, Nat.le_of_ble_eq_true rfl⟩) hLA hA hB hS (by decide) (fun x_73 σ_71 ρ_72 H locs hB fσ_71 pσ_71 hS => ?_)
              obtain ⟨g_74, g_75⟩ := pσ_71
              subst g_74
              exact W.zret (v := 0) hx hb hr rfl (fun t ht hW => ⟨⟨0, (σ_71, ρ_72), rfl, ⟨hB.2.1, hB.2.2, (show 0 ≤ (0 : Int32).toInt ∧ (0 : Int32).toInt ≤ 1 from ⟨by decide, by decide⟩)⟩, (show TP D cA L T r σ_71 ρ_72 t.heap from by rw [ht]; exact hB.1)⟩, hS.F ht⟩) hS.2.2 dX7_comparison_89
          · skip
            have uc_54 := i_ne (n := 61) (by decide) c_54
            refine lv_iload_n hx hb dX7_comparison_55 rfl (lv_at hl 1 rfl) ?_
            refine lv_bipush (v := 62) hx hb dX7_comparison_56 (by decide) ?_
            refine lv_icmp_eq (tgt := 71) hx hb dX7_comparison_58 (by decide) (fun c_76 => ?_) (fun c_76 => ?_)
            · skip
              have uc_76 := i_eq (n := 62) (by decide) c_76
              refine lv_aload_n hx hb dX7_comparison_71 rfl (lv_at hl 2 rfl) ?_
              refine t_gi hx hb hts hown hK hB mh0 th0 fi_7_7 rfl mw_2_189 dX7_comparison_72 (fun x_77 ex_77 lx_77 ux_77 => ?_)
              refine lv_bipush (v := 60) hx hb dX7_comparison_75 (by decide) ?_
              refine lv_icmp_lt (tgt := 90) hx hb dX7_comparison_77 (by decide) (fun c_78 => ?_) (fun c_78 => ?_)
              · skip
                have uc_78 := i_lt (n := 60) (by decide) c_78
                refine lv_aload_n hx hb dX7_comparison_90 rfl (lv_at hl 2 rfl) ?_
                refine lv_dup hx hb dX7_comparison_91 rfl ?_
                refine t_gv hx hb hts hown hK hB mh0 th0 fi_7_7 ex_77.symm mw_2_189 dX7_comparison_92 ?_
                refine lv_iconst (v := 1) hx hb dX7_comparison_95 (by decide) ?_
                refine lv_iadd hx hb dX7_comparison_96 ?_
                refine lv_topi (fun x_79 ex_79 => ?_)
                have vx_79 := b_add (rfl : x_77.toInt = _) (by decide : (1 : Int32).toInt = 1) ex_79 (by omega) (by omega)
                refine t_pi hx hb hts hown hK hLA hB hS mh0 th0 fi_7_7 rfl rfl rfl (i_lo _) (i_hi _) (Or.inl (by decide)) mw_2_189 dX7_comparison_97 (fun H locs σ_80 eσ_80 hB hS => ?_)
                have k_81 : σ_80 h0 7 = x_79 := by rw [eσ_80]; exact up2_same _ _ _ _
                refine lv_aload_n hx hb dX7_comparison_100 rfl (lv_at hl 2 rfl) ?_
                refine lv_dup hx hb dX7_comparison_101 rfl ?_
                have k_82 : σ_80 h0 6 = x_5 := by rw [eσ_80, up2_nej _ _ (by decide)]; exact ex_5.symm
                refine t_gv hx hb hts hown hK hB mh0 th0 fi_7_6 k_82 mw_2_188 dX7_comparison_102 ?_
                refine lv_iconst (v := 1) hx hb dX7_comparison_105 (by decide) ?_
                refine lv_iadd hx hb dX7_comparison_106 ?_
                refine lv_topi (fun x_83 ex_83 => ?_)
                refine t_pi hx hb hts hown hK hLA hB hS mh0 th0 fi_7_6 rfl rfl rfl (i_lo _) (i_hi _) (Or.inl (by decide)) mw_2_188 dX7_comparison_107 (fun H locs σ_84 eσ_84 hB hS => ?_)
                have k_85 : σ_84 h0 6 = x_83 := by rw [eσ_84]; exact up2_same _ _ _ _
                refine lv_aload_n hx hb dX7_comparison_110 rfl (lv_at hl 2 rfl) ?_
                refine lv_aload_n hx hb dX7_comparison_111 rfl (lv_at hl 3 rfl) ?_
                refine t_ci (va_runV (As := [.ref h1]) (rest := []) ⟨hx, hb, hml, hown, hts⟩ (cy_X7_sum l D cA L T r hG hLA.1 σ_84 ρ_7 hB.2.1 _ h0 mh0 th0 h1 mh1 th1) (cV hts mv_X7_sum mw_4_33 rfl rfl ⟨Nat.le_of_ble_eq_true rfl, Nat.le_of_ble_eq_true rfl⟩) (pV hB.1 hK hN mh0 th0 (show shp cA 7 _ _ _ = .inr (7, Fs7 _ _ _) from rfl) rfl) rfl rfl hl.1 rfl (lv_room (Nat.le_of_ble_eq_true rfl)) dX7_comparison_112 ⟨Nat.le_of_ble_eq_true rfl, Nat.le_of_ble_eq_true rfl⟩) hLA hA hB hS (by decide) (fun x_88 σ_86 ρ_87 H locs hB fσ_86 pσ_86 hS => ?_)
                obtain ⟨lx_88, ux_88⟩ := pσ_86
                refine lv_if_ne (tgt := 120) hx hb dX7_comparison_115 (by decide) (fun c_89 => ?_) (fun c_89 => ?_)
                · skip
                  have uc_89 := i_ne (n := 0) (by decide) c_89
                  refine lv_aload_n hx hb dX7_comparison_120 rfl (lv_at hl 2 rfl) ?_
                  refine lv_iload_n hx hb dX7_comparison_121 rfl (lv_at hl 1 rfl) ?_
                  refine t_cv (va_runV (As := [.int x_8]) (rest := []) ⟨hx, hb, hml, hown, hts⟩ (cy_X7_emit l D cA L T r hG hLA.1 σ_86 ρ_87 hB.2.1 _ h0 mh0 th0 x_8 (by first | omega | decide) (by first | omega | decide)) (cV hts mv_X7_emit mw_4_46 rfl rfl ⟨Nat.le_of_ble_eq_true rfl, Nat.le_of_ble_eq_true rfl⟩) (pV hB.1 hK hN mh0 th0 (show shp cA 7 _ _ _ = .inr (7, Fs7 _ _ _) from rfl) rfl) rfl rfl hl.1 rfl (lv_room (Nat.le_of_ble_eq_true rfl)) dX7_comparison_122 ⟨Nat.le_of_ble_eq_true rfl, Nat.le_of_ble_eq_true rfl⟩) hLA hA hB hS (by decide) (fun σ_90 ρ_91 H locs hB fσ_90 pσ_90 hS => ?_)
                  refine lv_iconst (v := 1) hx hb dX7_comparison_125 (by decide) ?_
                  exact W.zret (v := 1) hx hb hr rfl (fun t ht hW => ⟨⟨1, (σ_90, ρ_91), rfl, ⟨hB.2.1, hB.2.2, (show 0 ≤ (1 : Int32).toInt ∧ (1 : Int32).toInt ≤ 1 from ⟨by decide, by decide⟩)⟩, (show TP D cA L T r σ_90 ρ_91 t.heap from by rw [ht]; exact hB.1)⟩, hS.F ht⟩) hS.2.2 dX7_comparison_126
                · skip
                  have uc_89 := i_eq (n := 0) (by decide) c_89
                  refine lv_iconst (v := 0) hx hb dX7_comparison_118 (by decide) ?_
                  exact W.zret (v := 0) hx hb hr rfl (fun t ht hW => ⟨⟨0, (σ_86, ρ_87), rfl, ⟨hB.2.1, hB.2.2, (show 0 ≤ (0 : Int32).toInt ∧ (0 : Int32).toInt ≤ 1 from ⟨by decide, by decide⟩)⟩, (show TP D cA L T r σ_86 ρ_87 t.heap from by rw [ht]; exact hB.1)⟩, hS.F ht⟩) hS.2.2 dX7_comparison_119
              · skip
                have uc_78 := i_nlt (n := 60) (by decide) c_78
                refine lv_aload_n hx hb dX7_comparison_80 rfl (lv_at hl 3 rfl) ?_
                refine lv_aload_n hx hb dX7_comparison_81 rfl (lv_at hl 2 rfl) ?_
                refine t_gv hx hb hts hown hK hB mh0 th0 fi_7_6 ex_5.symm mw_2_188 dX7_comparison_82 ?_
                refine lv_iconst (v := 3) hx hb dX7_comparison_85 (by decide) ?_
                refine t_ci (va_runV (As := [.int x_5, .int 3]) (rest := []) ⟨hx, hb, hml, hown, hts⟩ (cy_X9_wrong l D cA L T r hG hLA.1 σ_1 ρ_7 hB.2.1 _ h1 mh1 th1 x_5 3 (by first | omega | decide) (by first | omega | decide)) (cV hts mv_X9_wrong mw_4_32 rfl rfl ⟨Nat.le_of_ble_eq_true rfl, Nat.le_of_ble_eq_true rfl⟩) (pV hB.1 hK hN mh1 th1 (show shp cA 9 _ _ _ = .inr (9, Fs9 _ _ _) from rfl) rfl) rfl rfl hl.1 rfl (lv_room (Nat.le_of_ble_eq_true rfl)) dX7_comparison_86 ⟨Nat.le_of_ble_eq_true rfl, Nat.le_of_ble_eq_true rfl⟩) hLA hA hB hS (by decide) (fun x_95 σ_93 ρ_94 H locs hB fσ_93 pσ_93 hS => ?_)
                obtain ⟨g_96, g_97⟩ := pσ_93
                subst g_96
                exact W.zret (v := 0) hx hb hr rfl (fun t ht hW => ⟨⟨0, (σ_93, ρ_94), rfl, ⟨hB.2.1, hB.2.2, (show 0 ≤ (0 : Int32).toInt ∧ (0 : Int32).toInt ≤ 1 from ⟨by decide, by decide⟩)⟩, (show TP D cA L T r σ_93 ρ_94 t.heap from by rw [ht]; exact hB.1)⟩, hS.F ht⟩) hS.2.2 dX7_comparison_89
            · skip
              have uc_76 := i_ne (n := 62) (by decide) c_76
              refine lv_aload_n hx hb dX7_comparison_61 rfl (lv_at hl 3 rfl) ?_
              refine lv_aload_n hx hb dX7_comparison_62 rfl (lv_at hl 2 rfl) ?_
              refine t_gv hx hb hts hown hK hB mh0 th0 fi_7_6 ex_5.symm mw_2_188 dX7_comparison_63 ?_
              refine lv_iconst (v := 0) hx hb dX7_comparison_66 (by decide) ?_
              refine t_ci (va_runV (As := [.int x_5, .int 0]) (rest := []) ⟨hx, hb, hml, hown, hts⟩ (cy_X9_wrong l D cA L T r hG hLA.1 σ_1 ρ_7 hB.2.1 _ h1 mh1 th1 x_5 0 (by first | omega | decide) (by first | omega | decide)) (cV hts mv_X9_wrong mw_4_32 rfl rfl ⟨Nat.le_of_ble_eq_true rfl, Nat.le_of_ble_eq_true rfl⟩) (pV hB.1 hK hN mh1 th1 (show shp cA 9 _ _ _ = .inr (9, Fs9 _ _ _) from rfl) rfl) rfl rfl hl.1 rfl (lv_room (Nat.le_of_ble_eq_true rfl)) dX7_comparison_67 ⟨Nat.le_of_ble_eq_true rfl, Nat.le_of_ble_eq_true rfl⟩) hLA hA hB hS (by decide) (fun x_100 σ_98 ρ_99 H locs hB fσ_98 pσ_98 hS => ?_)
              obtain ⟨g_101, g_102⟩ := pσ_98
              subst g_101
              exact W.zret (v := 0) hx hb hr rfl (fun t ht hW => ⟨⟨0, (σ_98, ρ_99), rfl, ⟨hB.2.1, hB.2.2, (show 0 ≤ (0 : Int32).toInt ∧ (0 : Int32).toInt ≤ 1 from ⟨by decide, by decide⟩)⟩, (show TP D cA L T r σ_98 ρ_99 t.heap from by rw [ht]; exact hB.1)⟩, hS.F ht⟩) hS.2.2 dX7_comparison_70
      · skip
        have uc_31 := i_eq (n := 129) (by decide) c_31
        refine lv_iconst (v := 1) hx hb dX7_comparison_33 (by decide) ?_
        refine lv_goto (tgt := 38) hx hb dX7_comparison_34 (by decide) ?_
        refine lv_istore_n (lv' := [(3, .int 1), (2, .int x_8), (0, .ref h0), (1, .ref h1)]) hx hb dX7_comparison_38 rfl hl (by decide) rfl (fun ls hl => ?_)
        refine lv_iload_n hx hb dX7_comparison_39 rfl (lv_at hl 0 rfl) ?_
        refine lv_if_ne (tgt := 71) hx hb dX7_comparison_40 (by decide) (fun _ => ?_) (fun c9 => absurd c9 (by decide))
        refine lv_aload_n hx hb dX7_comparison_71 rfl (lv_at hl 2 rfl) ?_
        refine t_gi hx hb hts hown hK hB mh0 th0 fi_7_7 rfl mw_2_189 dX7_comparison_72 (fun x_103 ex_103 lx_103 ux_103 => ?_)
        refine lv_bipush (v := 60) hx hb dX7_comparison_75 (by decide) ?_
        refine lv_icmp_lt (tgt := 90) hx hb dX7_comparison_77 (by decide) (fun c_104 => ?_) (fun c_104 => ?_)
        · skip
          have uc_104 := i_lt (n := 60) (by decide) c_104
          refine lv_aload_n hx hb dX7_comparison_90 rfl (lv_at hl 2 rfl) ?_
          refine lv_dup hx hb dX7_comparison_91 rfl ?_
          refine t_gv hx hb hts hown hK hB mh0 th0 fi_7_7 ex_103.symm mw_2_189 dX7_comparison_92 ?_
          refine lv_iconst (v := 1) hx hb dX7_comparison_95 (by decide) ?_
          refine lv_iadd hx hb dX7_comparison_96 ?_
          refine lv_topi (fun x_105 ex_105 => ?_)
          have vx_105 := b_add (rfl : x_103.toInt = _) (by decide : (1 : Int32).toInt = 1) ex_105 (by omega) (by omega)
          refine t_pi hx hb hts hown hK hLA hB hS mh0 th0 fi_7_7 rfl rfl rfl (i_lo _) (i_hi _) (Or.inl (by decide)) mw_2_189 dX7_comparison_97 (fun H locs σ_106 eσ_106 hB hS => ?_)
          have k_107 : σ_106 h0 7 = x_105 := by rw [eσ_106]; exact up2_same _ _ _ _
          refine lv_aload_n hx hb dX7_comparison_100 rfl (lv_at hl 2 rfl) ?_
          refine lv_dup hx hb dX7_comparison_101 rfl ?_
          have k_108 : σ_106 h0 6 = x_5 := by rw [eσ_106, up2_nej _ _ (by decide)]; exact ex_5.symm
          refine t_gv hx hb hts hown hK hB mh0 th0 fi_7_6 k_108 mw_2_188 dX7_comparison_102 ?_
          refine lv_iconst (v := 1) hx hb dX7_comparison_105 (by decide) ?_
          refine lv_iadd hx hb dX7_comparison_106 ?_
          refine lv_topi (fun x_109 ex_109 => ?_)
          refine t_pi hx hb hts hown hK hLA hB hS mh0 th0 fi_7_6 rfl rfl rfl (i_lo _) (i_hi _) (Or.inl (by decide)) mw_2_188 dX7_comparison_107 (fun H locs σ_110 eσ_110 hB hS => ?_)
          have k_111 : σ_110 h0 6 = x_109 := by rw [eσ_110]; exact up2_same _ _ _ _
          refine lv_aload_n hx hb dX7_comparison_110 rfl (lv_at hl 2 rfl) ?_
          refine lv_aload_n hx hb dX7_comparison_111 rfl (lv_at hl 3 rfl) ?_
          refine t_ci (va_runV (As := [.ref h1]) (rest := []) ⟨hx, hb, hml, hown, hts⟩ (cy_X7_sum l D cA L T r hG hLA.1 σ_110 ρ_7 hB.2.1 _ h0 mh0 th0 h1 mh1 th1) (cV hts mv_X7_sum mw_4_33 rfl rfl ⟨Nat.le_of_ble_eq_true rfl, Nat.le_of_ble_eq_true rfl⟩) (pV hB.1 hK hN mh0 th0 (show shp cA 7 _ _ _ = .inr (7, Fs7 _ _ _) from rfl) rfl) rfl rfl hl.1 rfl (lv_room (Nat.le_of_ble_eq_true rfl)) dX7_comparison_112 ⟨Nat.le_of_ble_eq_true rfl, Nat.le_of_ble_eq_true rfl⟩) hLA hA hB hS (by decide) (fun x_114 σ_112 ρ_113 H locs hB fσ_112 pσ_112 hS => ?_)
          obtain ⟨lx_114, ux_114⟩ := pσ_112
          refine lv_if_ne (tgt := 120) hx hb dX7_comparison_115 (by decide) (fun c_115 => ?_) (fun c_115 => ?_)
          · skip
            have uc_115 := i_ne (n := 0) (by decide) c_115
            refine lv_aload_n hx hb dX7_comparison_120 rfl (lv_at hl 2 rfl) ?_
            refine lv_iload_n hx hb dX7_comparison_121 rfl (lv_at hl 1 rfl) ?_
            refine t_cv (va_runV (As := [.int x_8]) (rest := []) ⟨hx, hb, hml, hown, hts⟩ (cy_X7_emit l D cA L T r hG hLA.1 σ_112 ρ_113 hB.2.1 _ h0 mh0 th0 x_8 (by first | omega | decide) (by first | omega | decide)) (cV hts mv_X7_emit mw_4_46 rfl rfl ⟨Nat.le_of_ble_eq_true rfl, Nat.le_of_ble_eq_true rfl⟩) (pV hB.1 hK hN mh0 th0 (show shp cA 7 _ _ _ = .inr (7, Fs7 _ _ _) from rfl) rfl) rfl rfl hl.1 rfl (lv_room (Nat.le_of_ble_eq_true rfl)) dX7_comparison_122 ⟨Nat.le_of_ble_eq_true rfl, Nat.le_of_ble_eq_true rfl⟩) hLA hA hB hS (by decide) (fun σ_116 ρ_117 H locs hB fσ_116 pσ_116 hS => ?_)
            refine lv_iconst (v := 1) hx hb dX7_comparison_125 (by decide) ?_
            exact W.zret (v := 1) hx hb hr rfl (fun t ht hW => ⟨⟨1, (σ_116, ρ_117), rfl, ⟨hB.2.1, hB.2.2, (show 0 ≤ (1 : Int32).toInt ∧ (1 : Int32).toInt ≤ 1 from ⟨by decide, by decide⟩)⟩, (show TP D cA L T r σ_116 ρ_117 t.heap from by rw [ht]; exact hB.1)⟩, hS.F ht⟩) hS.2.2 dX7_comparison_126
          · skip
            have uc_115 := i_eq (n := 0) (by decide) c_115
            refine lv_iconst (v := 0) hx hb dX7_comparison_118 (by decide) ?_
            exact W.zret (v := 0) hx hb hr rfl (fun t ht hW => ⟨⟨0, (σ_112, ρ_113), rfl, ⟨hB.2.1, hB.2.2, (show 0 ≤ (0 : Int32).toInt ∧ (0 : Int32).toInt ≤ 1 from ⟨by decide, by decide⟩)⟩, (show TP D cA L T r σ_112 ρ_113 t.heap from by rw [ht]; exact hB.1)⟩, hS.F ht⟩) hS.2.2 dX7_comparison_119
        · skip
          have uc_104 := i_nlt (n := 60) (by decide) c_104
          refine lv_aload_n hx hb dX7_comparison_80 rfl (lv_at hl 3 rfl) ?_
          refine lv_aload_n hx hb dX7_comparison_81 rfl (lv_at hl 2 rfl) ?_
          refine t_gv hx hb hts hown hK hB mh0 th0 fi_7_6 ex_5.symm mw_2_188 dX7_comparison_82 ?_
          refine lv_iconst (v := 3) hx hb dX7_comparison_85 (by decide) ?_
          refine t_ci (va_runV (As := [.int x_5, .int 3]) (rest := []) ⟨hx, hb, hml, hown, hts⟩ (cy_X9_wrong l D cA L T r hG hLA.1 σ_1 ρ_7 hB.2.1 _ h1 mh1 th1 x_5 3 (by first | omega | decide) (by first | omega | decide)) (cV hts mv_X9_wrong mw_4_32 rfl rfl ⟨Nat.le_of_ble_eq_true rfl, Nat.le_of_ble_eq_true rfl⟩) (pV hB.1 hK hN mh1 th1 (show shp cA 9 _ _ _ = .inr (9, Fs9 _ _ _) from rfl) rfl) rfl rfl hl.1 rfl (lv_room (Nat.le_of_ble_eq_true rfl)) dX7_comparison_86 ⟨Nat.le_of_ble_eq_true rfl, Nat.le_of_ble_eq_true rfl⟩) hLA hA hB hS (by decide) (fun x_121 σ_119 ρ_120 H locs hB fσ_119 pσ_119 hS => ?_)
          obtain ⟨g_122, g_123⟩ := pσ_119
          subst g_122
          exact W.zret (v := 0) hx hb hr rfl (fun t ht hW => ⟨⟨0, (σ_119, ρ_120), rfl, ⟨hB.2.1, hB.2.2, (show 0 ≤ (0 : Int32).toInt ∧ (0 : Int32).toInt ≤ 1 from ⟨by decide, by decide⟩)⟩, (show TP D cA L T r σ_119 ρ_120 t.heap from by rw [ht]; exact hB.1)⟩, hS.F ht⟩) hS.2.2 dX7_comparison_89
  · skip
    have uc_4 := i_eq (n := 0) (by decide) c_4
    refine lv_iconst (v := 0) hx hb dX7_comparison_8 (by decide) ?_
    exact W.zret (v := 0) hx hb hr rfl (fun t ht hW => ⟨⟨0, (σ_1, ρ_2), rfl, ⟨hB.2.1, hB.2.2, (show 0 ≤ (0 : Int32).toInt ∧ (0 : Int32).toInt ≤ 1 from ⟨by decide, by decide⟩)⟩, (show TP D cA L T r σ_1 ρ_2 t.heap from by rw [ht]; exact hB.1)⟩, hS.F ht⟩) hS.2.2 dX7_comparison_9
