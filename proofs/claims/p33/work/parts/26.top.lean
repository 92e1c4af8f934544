theorem mw_2_207 : (.fieldLink RX11 10 "HillBends" "tape" "LHillBends$Tape;" : Cond) ∈ wsA := wsA_t (List.mem_append_right _ (List.mem_append_left _ (List.mem_of_getElem? (l := tables_1_2) (i := 207) rfl))) rfl
theorem mw_1_40 : (.fieldLink RX11 76 "HillBends$Tape" "size" "I" : Cond) ∈ wsA := wsA_t (List.mem_append_left _ (List.mem_of_getElem? (l := tables_1_1) (i := 40) rfl)) rfl
theorem dX11_end_0 : decode cX11_end 0 = .ok (.iload_n 1, 1) := by decide +kernel
theorem dX11_end_1 : decode cX11_end 1 = .ok (.ifCond .lt 14, 3) := by decide +kernel
theorem dX11_end_15 : decode cX11_end 15 = .ok (.iconst (-1), 1) := by decide +kernel
theorem dX11_end_16 : decode cX11_end 16 = .ok (.ireturn, 1) := by decide +kernel
theorem dX11_end_4 : decode cX11_end 4 = .ok (.iload_n 1, 1) := by decide +kernel
theorem dX11_end_5 : decode cX11_end 5 = .ok (.aload_n 0, 1) := by decide +kernel
theorem dX11_end_6 : decode cX11_end 6 = .ok (.getfield 10, 3) := by decide +kernel
theorem dX11_end_9 : decode cX11_end 9 = .ok (.getfield 76, 3) := by decide +kernel
theorem dX11_end_12 : decode cX11_end 12 = .ok (.if_icmp .le 5, 3) := by decide +kernel
theorem dX11_end_17 : decode cX11_end 17 = .ok (.aload_n 0, 1) := by decide +kernel
theorem dX11_end_18 : decode cX11_end 18 = .ok (.getfield 10, 3) := by decide +kernel
theorem dX11_end_21 : decode cX11_end 21 = .ok (.iload_n 1, 1) := by decide +kernel
theorem dX11_end_22 : decode cX11_end 22 = .ok (.putfield 76, 3) := by decide +kernel
theorem dX11_end_25 : decode cX11_end 25 = .ok (.iload_n 1, 1) := by decide +kernel
theorem dX11_end_26 : decode cX11_end 26 = .ok (.ireturn, 1) := by decide +kernel
set_option maxHeartbeats 4000000 in
set_option maxRecDepth 100000 in
theorem cy_X11_end (l : Launch) (D : va_G) (cA : Nat → ClassId) (L : List Nat) (T : Nat → Nat) (r : Rg) (hG : GR L T r) (hL : L.Nodup) (σ : Sg) (ρ : Lg) (hW : WT L ry T σ) (sz : Nat) (h0 : Nat) (mh0 : h0 ∈ L) (th0 : T h0 = 11) (p1 : Int32) : Met l yX11_end (.code yX11_end cX11_end 2 (some .int) :: wsA) ({ frames := 0, cells := 0, slots := 0, locals := 0 }) (PR D cA L T r σ ρ sz [.ref h0, .int p1]) (QI D cA L T r ry [(9, 4)] σ sz (fun x σ1 => True)) 0 0 (dm L sz) := by
  refine Met.ofW (cc := cX11_end) (maxL := 2) (ret := (some .int)) (by decide) rfl ?_
  intro p e s m args below meth c s₁ B hml hv
  obtain ⟨rfl, hsz, hP, hK, hN⟩ := hv
  have hx := B.exec
  have hb := B.bytes
  have hr := B.returns
  have hts : ∀ w ∈ wsA, w.before _ s = true := fun w h => atoms_spec (ws := .code yX11_end cX11_end 2 (some .int) :: wsA) B.pre w (List.mem_cons_of_mem _ h)
  have hown : s.vm.findClass RX11 = some m.cls := findClass_of_methodNamed B.named
  subst hsz
  have hLA : LA (dm L s.heap.size) L := ⟨hL, fun a h => Or.inl h⟩
  have hA : ∀ q : Nat, s.heap.size ≤ q → dm L s.heap.size q := fun q h => Or.inr h
  have hS : va_S (dm L s.heap.size) s.heap s.heap [] := va_S.rf
  have hB : TS D cA L T r ry [(9, 4)] σ σ ρ s.heap := ⟨hP, hW, FR.rf⟩
  have hl := lv_entry ([.ref h0, .int p1]) (n := 2) (Nat.le_of_ble_eq_true rfl)
  rw [lg_entry_eq]
  generalize (lg_sl ([.ref h0, .int p1]) ++ List.replicate (2 - (lg_sl ([.ref h0, .int p1])).length) Slot.unset).toArray = ls at hl ⊢
  have hl : lv_has ls 2 [(0, .ref h0), (1, .int p1)] := hl
  refine lv_iload_n hx hb dX11_end_0 rfl (lv_at hl 1 rfl) ?_
  refine lv_if_lt (tgt := 15) hx hb dX11_end_1 (by decide) (fun c_1 => ?_) (fun c_1 => ?_)
  · skip
    have uc_1 := i_lt (n := 0) (by decide) c_1
    refine lv_iconst (v := (-1)) hx hb dX11_end_15 (by decide) ?_
    exact W.iret (v := (-1)) hx hb hr (fun t ht hW => ⟨⟨(-1), (σ, ρ), rfl, ⟨hB.2.1, hB.2.2, trivial⟩, (show TP D cA L T r σ ρ t.heap from by rw [ht]; exact hB.1)⟩, hS.F ht⟩) hS.2.2 dX11_end_16
  · skip
    have uc_1 := i_nlt (n := 0) (by decide) c_1
    refine lv_iload_n hx hb dX11_end_4 rfl (lv_at hl 1 rfl) ?_
    refine lv_aload_n hx hb dX11_end_5 rfl (lv_at hl 0 rfl) ?_
    refine t_gr hx hb hts hown hK hG hB mh0 th0 fq_11_0 rfl mw_2_207 dX11_end_6 (fun b_2 hb_2 mb_2 tb_2 => ?_)
    refine t_gi hx hb hts hown hK hB mb_2 tb_2 fi_9_4 rfl mw_1_40 dX11_end_9 (fun x_3 ex_3 lx_3 ux_3 => ?_)
    have cx_3 := congrArg Int32.toInt ex_3
    refine lv_icmp_le (tgt := 17) hx hb dX11_end_12 (by decide) (fun c_4 => ?_) (fun c_4 => ?_)
    · skip
      have uc_4 := j_le c_4
      refine lv_aload_n hx hb dX11_end_17 rfl (lv_at hl 0 rfl) ?_
      refine t_gk hx hb hts hown hK hB mh0 th0 fq_11_0 hb_2 mw_2_207 dX11_end_18 ?_
      refine lv_iload_n hx hb dX11_end_21 rfl (lv_at hl 1 rfl) ?_
      refine t_pi hx hb hts hown hK hLA hB hS mb_2 tb_2 fi_9_4 rfl rfl rfl (by first | omega | (subst_vars; omega)) (by first | omega | (subst_vars; omega)) (Or.inl (by decide)) mw_1_40 dX11_end_22 (fun H locs σ_5 eσ_5 hB hS => ?_)
      have k_6 : σ_5 b_2 4 = p1 := by rw [eσ_5]; exact up2_same _ _ _ _
      refine lv_iload_n hx hb dX11_end_25 rfl (lv_at hl 1 rfl) ?_
      exact W.iret (v := p1) hx hb hr (fun t ht hW => ⟨⟨p1, (σ_5, ρ), rfl, ⟨hB.2.1, hB.2.2, trivial⟩, (show TP D cA L T r σ_5 ρ t.heap from by rw [ht]; exact hB.1)⟩, hS.F ht⟩) hS.2.2 dX11_end_26
    · skip
      have uc_4 := j_nle c_4
      refine lv_iconst (v := (-1)) hx hb dX11_end_15 (by decide) ?_
      exact W.iret (v := (-1)) hx hb hr (fun t ht hW => ⟨⟨(-1), (σ, ρ), rfl, ⟨hB.2.1, hB.2.2, trivial⟩, (show TP D cA L T r σ ρ t.heap from by rw [ht]; exact hB.1)⟩, hS.F ht⟩) hS.2.2 dX11_end_16
theorem mw_2_217 : (.fieldLink RX11 110 "HillBends" "ruleCount" "I" : Cond) ∈ wsA := wsA_t (List.mem_append_right _ (List.mem_append_left _ (List.mem_of_getElem? (l := tables_1_2) (i := 217) rfl))) rfl
theorem mw_2_15 : (.fieldLink RX11 114 "HillBends$World" "force" "I" : Cond) ∈ wsA := wsA_t (List.mem_append_right _ (List.mem_append_left _ (List.mem_of_getElem? (l := tables_1_2) (i := 15) rfl))) rfl
theorem dX11_force_0 : decode cX11_force 0 = .ok (.iload_n 1, 1) := by decide +kernel
theorem dX11_force_1 : decode cX11_force 1 = .ok (.iconst (-1), 1) := by decide +kernel
theorem dX11_force_2 : decode cX11_force 2 = .ok (.if_icmp .lt 11, 3) := by decide +kernel
theorem dX11_force_13 : decode cX11_force 13 = .ok (.bipush (-2), 2) := by decide +kernel
theorem dX11_force_15 : decode cX11_force 15 = .ok (.ireturn, 1) := by decide +kernel
theorem dX11_force_5 : decode cX11_force 5 = .ok (.iload_n 1, 1) := by decide +kernel
theorem dX11_force_6 : decode cX11_force 6 = .ok (.aload_n 0, 1) := by decide +kernel
theorem dX11_force_7 : decode cX11_force 7 = .ok (.getfield 110, 3) := by decide +kernel
theorem dX11_force_10 : decode cX11_force 10 = .ok (.if_icmp .lt 6, 3) := by decide +kernel
theorem dX11_force_16 : decode cX11_force 16 = .ok (.aload_n 0, 1) := by decide +kernel
theorem dX11_force_17 : decode cX11_force 17 = .ok (.getfield 32, 3) := by decide +kernel
theorem dX11_force_20 : decode cX11_force 20 = .ok (.getfield 114, 3) := by decide +kernel
theorem dX11_force_23 : decode cX11_force 23 = .ok (.istore_n 2, 1) := by decide +kernel
theorem dX11_force_24 : decode cX11_force 24 = .ok (.aload_n 0, 1) := by decide +kernel
theorem dX11_force_25 : decode cX11_force 25 = .ok (.getfield 32, 3) := by decide +kernel
theorem dX11_force_28 : decode cX11_force 28 = .ok (.iload_n 1, 1) := by decide +kernel
theorem dX11_force_29 : decode cX11_force 29 = .ok (.putfield 114, 3) := by decide +kernel
theorem dX11_force_32 : decode cX11_force 32 = .ok (.iload_n 2, 1) := by decide +kernel
theorem dX11_force_33 : decode cX11_force 33 = .ok (.ireturn, 1) := by decide +kernel
set_option maxHeartbeats 4000000 in
set_option maxRecDepth 100000 in
theorem cy_X11_force (l : Launch) (D : va_G) (cA : Nat → ClassId) (L : List Nat) (T : Nat → Nat) (r : Rg) (hG : GR L T r) (hL : L.Nodup) (σ : Sg) (ρ : Lg) (hW : WT L ry T σ) (sz : Nat) (h0 : Nat) (mh0 : h0 ∈ L) (th0 : T h0 = 11) (p1 : Int32) : Met l yX11_force (.code yX11_force cX11_force 3 (some .int) :: wsA) ({ frames := 0, cells := 0, slots := 0, locals := 0 }) (PR D cA L T r σ ρ sz [.ref h0, .int p1]) (QI D cA L T r ry [(10, 7)] σ sz (fun x σ1 => True)) 0 0 (dm L sz) := by
  refine Met.ofW (cc := cX11_force) (maxL := 3) (ret := (some .int)) (by decide) rfl ?_
  intro p e s m args below meth c s₁ B hml hv
  obtain ⟨rfl, hsz, hP, hK, hN⟩ := hv
  have hx := B.exec
  have hb := B.bytes
  have hr := B.returns
  have hts : ∀ w ∈ wsA, w.before _ s = true := fun w h => atoms_spec (ws := .code yX11_force cX11_force 3 (some .int) :: wsA) B.pre w (List.mem_cons_of_mem _ h)
  have hown : s.vm.findClass RX11 = some m.cls := findClass_of_methodNamed B.named
  subst hsz
  have hLA : LA (dm L s.heap.size) L := ⟨hL, fun a h => Or.inl h⟩
  have hA : ∀ q : Nat, s.heap.size ≤ q → dm L s.heap.size q := fun q h => Or.inr h
  have hS : va_S (dm L s.heap.size) s.heap s.heap [] := va_S.rf
  have hB : TS D cA L T r ry [(10, 7)] σ σ ρ s.heap := ⟨hP, hW, FR.rf⟩
  have hl := lv_entry ([.ref h0, .int p1]) (n := 3) (Nat.le_of_ble_eq_true rfl)
  rw [lg_entry_eq]
  generalize (lg_sl ([.ref h0, .int p1]) ++ List.replicate (3 - (lg_sl ([.ref h0, .int p1])).length) Slot.unset).toArray = ls at hl ⊢
  have hl : lv_has ls 3 [(0, .ref h0), (1, .int p1)] := hl
  refine lv_iload_n hx hb dX11_force_0 rfl (lv_at hl 1 rfl) ?_
  refine lv_iconst (v := (-1)) hx hb dX11_force_1 (by decide) ?_
  refine lv_icmp_lt (tgt := 13) hx hb dX11_force_2 (by decide) (fun c_1 => ?_) (fun c_1 => ?_)
  · skip
    have uc_1 := i_lt (n := (-1)) (by decide) c_1
    refine lv_bipush (v := (-2)) hx hb dX11_force_13 (by decide) ?_
    exact W.iret (v := (-2)) hx hb hr (fun t ht hW => ⟨⟨(-2), (σ, ρ), rfl, ⟨hB.2.1, hB.2.2, trivial⟩, (show TP D cA L T r σ ρ t.heap from by rw [ht]; exact hB.1)⟩, hS.F ht⟩) hS.2.2 dX11_force_15
  · skip
    have uc_1 := i_nlt (n := (-1)) (by decide) c_1
    refine lv_iload_n hx hb dX11_force_5 rfl (lv_at hl 1 rfl) ?_
    refine lv_aload_n hx hb dX11_force_6 rfl (lv_at hl 0 rfl) ?_
    refine t_gi hx hb hts hown hK hB mh0 th0 fi_11_10 rfl mw_2_217 dX11_force_7 (fun x_2 ex_2 lx_2 ux_2 => ?_)
    have cx_2 := congrArg Int32.toInt ex_2
    refine lv_icmp_lt (tgt := 16) hx hb dX11_force_10 (by decide) (fun c_3 => ?_) (fun c_3 => ?_)
    · skip
      have uc_3 := j_lt c_3
      refine lv_aload_n hx hb dX11_force_16 rfl (lv_at hl 0 rfl) ?_
      refine t_gr hx hb hts hown hK hG hB mh0 th0 fq_11_3 rfl mw_2_210 dX11_force_17 (fun b_4 hb_4 mb_4 tb_4 => ?_)
      refine t_gi hx hb hts hown hK hB mb_4 tb_4 fi_10_7 rfl mw_2_15 dX11_force_20 (fun x_5 ex_5 lx_5 ux_5 => ?_)
      have cx_5 := congrArg Int32.toInt ex_5
      refine lv_istore_n (lv' := [(2, .int x_5), (0, .ref h0), (1, .int p1)]) hx hb dX11_force_23 rfl hl (by decide) rfl (fun ls hl => ?_)
      refine lv_aload_n hx hb dX11_force_24 rfl (lv_at hl 1 rfl) ?_
      refine t_gk hx hb hts hown hK hB mh0 th0 fq_11_3 hb_4 mw_2_210 dX11_force_25 ?_
      refine lv_iload_n hx hb dX11_force_28 rfl (lv_at hl 2 rfl) ?_
      refine t_pi hx hb hts hown hK hLA hB hS mb_4 tb_4 fi_10_7 rfl rfl rfl (i_lo _) (i_hi _) (Or.inl (by decide)) mw_2_15 dX11_force_29 (fun H locs σ_6 eσ_6 hB hS => ?_)
      have k_7 : σ_6 b_4 7 = p1 := by rw [eσ_6]; exact up2_same _ _ _ _
      refine lv_iload_n hx hb dX11_force_32 rfl (lv_at hl 0 rfl) ?_
      exact W.iret (v := x_5) hx hb hr (fun t ht hW => ⟨⟨x_5, (σ_6, ρ), rfl, ⟨hB.2.1, hB.2.2, trivial⟩, (show TP D cA L T r σ_6 ρ t.heap from by rw [ht]; exact hB.1)⟩, hS.F ht⟩) hS.2.2 dX11_force_33
    · skip
      have uc_3 := j_nlt c_3
      refine lv_bipush (v := (-2)) hx hb dX11_force_13 (by decide) ?_
      exact W.iret (v := (-2)) hx hb hr (fun t ht hW => ⟨⟨(-2), (σ, ρ), rfl, ⟨hB.2.1, hB.2.2, trivial⟩, (show TP D cA L T r σ ρ t.heap from by rw [ht]; exact hB.1)⟩, hS.F ht⟩) hS.2.2 dX11_force_15
theorem mw_1_98 : (.fieldLink RX11 144 "HillBends$Scene" "has" "[I" : Cond) ∈ wsA := wsA_t (List.mem_append_left _ (List.mem_of_getElem? (l := tables_1_1) (i := 98) rfl)) rfl
theorem mw_1_86 : (.fieldLink RX11 131 "HillBends$Scene" "money" "[I" : Cond) ∈ wsA := wsA_t (List.mem_append_left _ (List.mem_of_getElem? (l := tables_1_1) (i := 86) rfl)) rfl
theorem mw_1_91 : (.fieldLink RX11 134 "HillBends$Scene" "left" "[I" : Cond) ∈ wsA := wsA_t (List.mem_append_left _ (List.mem_of_getElem? (l := tables_1_1) (i := 91) rfl)) rfl
theorem mw_1_94 : (.fieldLink RX11 137 "HillBends$Scene" "taken" "[I" : Cond) ∈ wsA := wsA_t (List.mem_append_left _ (List.mem_of_getElem? (l := tables_1_1) (i := 94) rfl)) rfl
theorem mw_4_74 : (.methodLink RX11 140 yX8_weightOf : Cond) ∈ wsA := wsA_t (List.mem_append_right _ (List.mem_append_right _ (List.mem_append_right _ (List.mem_append_left _ (List.mem_of_getElem? (l := tables_1_4) (i := 74) rfl))))) rfl
theorem dX11_pilgrim_0 : decode cX11_pilgrim 0 = .ok (.aload_n 0, 1) := by decide +kernel
theorem dX11_pilgrim_1 : decode cX11_pilgrim 1 = .ok (.iload_n 1, 1) := by decide +kernel
theorem dX11_pilgrim_2 : decode cX11_pilgrim 2 = .ok (.invokevirtual 117, 3) := by decide +kernel
theorem dX11_pilgrim_5 : decode cX11_pilgrim 5 = .ok (.ifCond .ne 5, 3) := by decide +kernel
theorem dX11_pilgrim_10 : decode cX11_pilgrim 10 = .ok (.aload_n 0, 1) := by decide +kernel
theorem dX11_pilgrim_11 : decode cX11_pilgrim 11 = .ok (.getfield 32, 3) := by decide +kernel
theorem dX11_pilgrim_14 : decode cX11_pilgrim 14 = .ok (.getfield 121, 3) := by decide +kernel
theorem dX11_pilgrim_17 : decode cX11_pilgrim 17 = .ok (.astore_n 3, 1) := by decide +kernel
theorem dX11_pilgrim_18 : decode cX11_pilgrim 18 = .ok (.iload_n 2, 1) := by decide +kernel
theorem dX11_pilgrim_19 : decode cX11_pilgrim 19 = .ok (.tableswitch 74 0 4 #[33, 40, 47, 54, 61], 33) := by decide +kernel
theorem dX11_pilgrim_93 : decode cX11_pilgrim 93 = .ok (.iload_n 2, 1) := by decide +kernel
theorem dX11_pilgrim_94 : decode cX11_pilgrim 94 = .ok (.iconst 5, 1) := by decide +kernel
theorem dX11_pilgrim_95 : decode cX11_pilgrim 95 = .ok (.if_icmp .lt 24, 3) := by decide +kernel
theorem dX11_pilgrim_119 : decode cX11_pilgrim 119 = .ok (.iconst (-1), 1) := by decide +kernel
theorem dX11_pilgrim_120 : decode cX11_pilgrim 120 = .ok (.ireturn, 1) := by decide +kernel
theorem dX11_pilgrim_98 : decode cX11_pilgrim 98 = .ok (.iload_n 2, 1) := by decide +kernel
theorem dX11_pilgrim_99 : decode cX11_pilgrim 99 = .ok (.bipush 10, 2) := by decide +kernel
theorem dX11_pilgrim_101 : decode cX11_pilgrim 101 = .ok (.if_icmp .ge 18, 3) := by decide +kernel
theorem dX11_pilgrim_104 : decode cX11_pilgrim 104 = .ok (.aload_n 3, 1) := by decide +kernel
theorem dX11_pilgrim_105 : decode cX11_pilgrim 105 = .ok (.getfield 144, 3) := by decide +kernel
theorem dX11_pilgrim_108 : decode cX11_pilgrim 108 = .ok (.iload_n 1, 1) := by decide +kernel
theorem dX11_pilgrim_109 : decode cX11_pilgrim 109 = .ok (.iconst 5, 1) := by decide +kernel
theorem dX11_pilgrim_110 : decode cX11_pilgrim 110 = .ok (.imul, 1) := by decide +kernel
theorem dX11_pilgrim_111 : decode cX11_pilgrim 111 = .ok (.iload_n 2, 1) := by decide +kernel
theorem dX11_pilgrim_112 : decode cX11_pilgrim 112 = .ok (.iadd, 1) := by decide +kernel
theorem dX11_pilgrim_113 : decode cX11_pilgrim 113 = .ok (.iconst 5, 1) := by decide +kernel
theorem dX11_pilgrim_114 : decode cX11_pilgrim 114 = .ok (.isub, 1) := by decide +kernel
theorem dX11_pilgrim_115 : decode cX11_pilgrim 115 = .ok (.iaload, 1) := by decide +kernel
theorem dX11_pilgrim_116 : decode cX11_pilgrim 116 = .ok (.goto 4, 3) := by decide +kernel
theorem dX11_pilgrim_52 : decode cX11_pilgrim 52 = .ok (.aload_n 3, 1) := by decide +kernel
theorem dX11_pilgrim_53 : decode cX11_pilgrim 53 = .ok (.getfield 125, 3) := by decide +kernel
theorem dX11_pilgrim_56 : decode cX11_pilgrim 56 = .ok (.iload_n 1, 1) := by decide +kernel
theorem dX11_pilgrim_57 : decode cX11_pilgrim 57 = .ok (.iaload, 1) := by decide +kernel
theorem dX11_pilgrim_58 : decode cX11_pilgrim 58 = .ok (.ireturn, 1) := by decide +kernel
theorem dX11_pilgrim_59 : decode cX11_pilgrim 59 = .ok (.aload_n 3, 1) := by decide +kernel
theorem dX11_pilgrim_60 : decode cX11_pilgrim 60 = .ok (.getfield 131, 3) := by decide +kernel
theorem dX11_pilgrim_63 : decode cX11_pilgrim 63 = .ok (.iload_n 1, 1) := by decide +kernel
theorem dX11_pilgrim_64 : decode cX11_pilgrim 64 = .ok (.iaload, 1) := by decide +kernel
theorem dX11_pilgrim_65 : decode cX11_pilgrim 65 = .ok (.ireturn, 1) := by decide +kernel
theorem dX11_pilgrim_66 : decode cX11_pilgrim 66 = .ok (.aload_n 3, 1) := by decide +kernel
theorem dX11_pilgrim_67 : decode cX11_pilgrim 67 = .ok (.getfield 134, 3) := by decide +kernel
theorem dX11_pilgrim_70 : decode cX11_pilgrim 70 = .ok (.iload_n 1, 1) := by decide +kernel
theorem dX11_pilgrim_71 : decode cX11_pilgrim 71 = .ok (.iaload, 1) := by decide +kernel
theorem dX11_pilgrim_72 : decode cX11_pilgrim 72 = .ok (.ireturn, 1) := by decide +kernel
theorem dX11_pilgrim_73 : decode cX11_pilgrim 73 = .ok (.aload_n 3, 1) := by decide +kernel
theorem dX11_pilgrim_74 : decode cX11_pilgrim 74 = .ok (.getfield 137, 3) := by decide +kernel
theorem dX11_pilgrim_77 : decode cX11_pilgrim 77 = .ok (.iload_n 1, 1) := by decide +kernel
theorem dX11_pilgrim_78 : decode cX11_pilgrim 78 = .ok (.iaload, 1) := by decide +kernel
theorem dX11_pilgrim_79 : decode cX11_pilgrim 79 = .ok (.ireturn, 1) := by decide +kernel
theorem dX11_pilgrim_80 : decode cX11_pilgrim 80 = .ok (.aload_n 3, 1) := by decide +kernel
theorem dX11_pilgrim_81 : decode cX11_pilgrim 81 = .ok (.aload_n 0, 1) := by decide +kernel
theorem dX11_pilgrim_82 : decode cX11_pilgrim 82 = .ok (.getfield 32, 3) := by decide +kernel
theorem dX11_pilgrim_85 : decode cX11_pilgrim 85 = .ok (.getfield 102, 3) := by decide +kernel
theorem dX11_pilgrim_88 : decode cX11_pilgrim 88 = .ok (.iload_n 1, 1) := by decide +kernel
theorem dX11_pilgrim_89 : decode cX11_pilgrim 89 = .ok (.invokevirtual 140, 3) := by decide +kernel
theorem dX11_pilgrim_92 : decode cX11_pilgrim 92 = .ok (.ireturn, 1) := by decide +kernel
theorem dX11_pilgrim_8 : decode cX11_pilgrim 8 = .ok (.iconst (-1), 1) := by decide +kernel
theorem dX11_pilgrim_9 : decode cX11_pilgrim 9 = .ok (.ireturn, 1) := by decide +kernel
set_option maxHeartbeats 4000000 in
set_option maxRecDepth 100000 in
theorem cy_X11_pilgrim (l : Launch) (D : va_G) (cA : Nat → ClassId) (L : List Nat) (T : Nat → Nat) (r : Rg) (hG : GR L T r) (hL : L.Nodup) (σ : Sg) (ρ : Lg) (hW : WT L ry T σ) (sz : Nat) (h0 : Nat) (mh0 : h0 ∈ L) (th0 : T h0 = 11) (p1 : Int32) (p2 : Int32) : Met l yX11_pilgrim (.code yX11_pilgrim cX11_pilgrim 4 (some .int) :: wsA) ({ frames := 1, cells := 0, slots := 0, locals := 24 }) (PR D cA L T r σ ρ sz [.ref h0, .int p1, .int p2]) (QI D cA L T r ry ([] : List (Nat × Nat)) σ sz (fun x σ1 => True)) 0 0 (dm L sz) := by
  refine Met.ofW (cc := cX11_pilgrim) (maxL := 4) (ret := (some .int)) (by decide) rfl ?_
  intro p e s m args below meth c s₁ B hml hv
  obtain ⟨rfl, hsz, hP, hK, hN⟩ := hv
  have hx := B.exec
  have hb := B.bytes
  have hr := B.returns
  have hts : ∀ w ∈ wsA, w.before _ s = true := fun w h => atoms_spec (ws := .code yX11_pilgrim cX11_pilgrim 4 (some .int) :: wsA) B.pre w (List.mem_cons_of_mem _ h)
  have hown : s.vm.findClass RX11 = some m.cls := findClass_of_methodNamed B.named
  subst hsz
  have hLA : LA (dm L s.heap.size) L := ⟨hL, fun a h => Or.inl h⟩
  have hA : ∀ q : Nat, s.heap.size ≤ q → dm L s.heap.size q := fun q h => Or.inr h
  have hS : va_S (dm L s.heap.size) s.heap s.heap [] := va_S.rf
  have hB : TS D cA L T r ry ([] : List (Nat × Nat)) σ σ ρ s.heap := ⟨hP, hW, FR.rf⟩
  have hl := lv_entry ([.ref h0, .int p1, .int p2]) (n := 4) (Nat.le_of_ble_eq_true rfl)
  rw [lg_entry_eq]
  generalize (lg_sl ([.ref h0, .int p1, .int p2]) ++ List.replicate (4 - (lg_sl ([.ref h0, .int p1, .int p2])).length) Slot.unset).toArray = ls at hl ⊢
  have hl : lv_has ls 4 [(0, .ref h0), (1, .int p1), (2, .int p2)] := hl
  refine lv_aload_n hx hb dX11_pilgrim_0 rfl (lv_at hl 0 rfl) ?_
  refine lv_iload_n hx hb dX11_pilgrim_1 rfl (lv_at hl 1 rfl) ?_
  refine t_ci (va_runV (As := [.int p1]) (rest := []) ⟨hx, hb, hml, hown, hts⟩ (cy_X11_isPilgrim l D cA L T r hG hLA.1 σ ρ hB.2.1 _ h0 mh0 th0 p1) (cV hts mv_X11_isPilgrim mw_4_70 rfl rfl ⟨Nat.le_of_ble_eq_true rfl, Nat.le_of_ble_eq_true rfl⟩) (pV hB.1 hK hN mh0 th0 (show shp cA 11 _ _ _ = .inr (11, Fs11 _ _ _) from rfl) rfl) rfl rfl hl.1 rfl (lv_room (Nat.le_of_ble_eq_true rfl)) dX11_pilgrim_2 ⟨Nat.le_of_ble_eq_true rfl, Nat.le_of_ble_eq_true rfl⟩) hLA hA hB hS (by decide) (fun x_3 σ_1 ρ_2 H locs hB fσ_1 pσ_1 hS => ?_)
  have qσ_1 := FR.nil fσ_1
  subst qσ_1
  obtain ⟨ox_3, ix_3⟩ := pσ_1
  refine lv_if_ne (tgt := 10) hx hb dX11_pilgrim_5 (by decide) (fun c_4 => ?_) (fun c_4 => ?_)
  · skip
    have uc_4 := i_ne (n := 0) (by decide) c_4
    refine lv_aload_n hx hb dX11_pilgrim_10 rfl (lv_at hl 0 rfl) ?_
    refine t_gr hx hb hts hown hK hG hB mh0 th0 fq_11_3 rfl mw_2_210 dX11_pilgrim_11 (fun b_5 hb_5 mb_5 tb_5 => ?_)
    refine t_gr hx hb hts hown hK hG hB mb_5 tb_5 fq_10_1 rfl mw_1_239 dX11_pilgrim_14 (fun b_6 hb_6 mb_6 tb_6 => ?_)
    refine lv_astore_n (lv' := [(3, .ref b_6), (0, .ref h0), (1, .int p1), (2, .int p2)]) hx hb dX11_pilgrim_17 rfl hl (by decide) rfl (fun ls hl => ?_)
    refine lv_iload_n hx hb dX11_pilgrim_18 rfl (lv_at hl 3 rfl) ?_
    by_cases c_7 : p2.toInt < 0 ∨ 4 < p2.toInt
    · skip
      refine lv_tableOut (tgt := 93) hx hb dX11_pilgrim_19 c_7 (by decide) ?_
      refine lv_iload_n hx hb dX11_pilgrim_93 rfl (lv_at hl 3 rfl) ?_
      refine lv_iconst (v := 5) hx hb dX11_pilgrim_94 (by decide) ?_
      refine lv_icmp_lt (tgt := 119) hx hb dX11_pilgrim_95 (by decide) (fun c_8 => ?_) (fun c_8 => ?_)
      · skip
        have uc_8 := i_lt (n := 5) (by decide) c_8
        refine lv_iconst (v := (-1)) hx hb dX11_pilgrim_119 (by decide) ?_
        exact W.iret (v := (-1)) hx hb hr (fun t ht hW => ⟨⟨(-1), (σ, ρ_2), rfl, ⟨hB.2.1, hB.2.2, trivial⟩, (show TP D cA L T r σ ρ_2 t.heap from by rw [ht]; exact hB.1)⟩, hS.F ht⟩) hS.2.2 dX11_pilgrim_120
      · skip
        have uc_8 := i_nlt (n := 5) (by decide) c_8
        refine lv_iload_n hx hb dX11_pilgrim_98 rfl (lv_at hl 3 rfl) ?_
        refine lv_bipush (v := 10) hx hb dX11_pilgrim_99 (by decide) ?_
        refine lv_icmp_ge (tgt := 119) hx hb dX11_pilgrim_101 (by decide) (fun c_9 => ?_) (fun c_9 => ?_)
        · skip
          have uc_9 := i_ge (n := 10) (by decide) c_9
          refine lv_iconst (v := (-1)) hx hb dX11_pilgrim_119 (by decide) ?_
          exact W.iret (v := (-1)) hx hb hr (fun t ht hW => ⟨⟨(-1), (σ, ρ_2), rfl, ⟨hB.2.1, hB.2.2, trivial⟩, (show TP D cA L T r σ ρ_2 t.heap from by rw [ht]; exact hB.1)⟩, hS.F ht⟩) hS.2.2 dX11_pilgrim_120
        · skip
          have uc_9 := i_nge (n := 10) (by decide) c_9
          refine lv_aload_n hx hb dX11_pilgrim_104 rfl (lv_at hl 0 rfl) ?_
          refine t_gr hx hb hts hown hK hG hB mb_6 tb_6 fq_8_4 rfl mw_1_98 dX11_pilgrim_105 (fun b_10 hb_10 mb_10 tb_10 => ?_)
          refine lv_iload_n hx hb dX11_pilgrim_108 rfl (lv_at hl 2 rfl) ?_
          refine lv_iconst (v := 5) hx hb dX11_pilgrim_109 (by decide) ?_
          refine lv_imul hx hb dX11_pilgrim_110 ?_
          refine lv_topi (fun x_11 ex_11 => ?_)
          try have vx_11 := b_mul (rfl : p1.toInt = _) (by decide : (5 : Int32).toInt = 5) ex_11 (by omega) (by omega)
          refine lv_iload_n hx hb dX11_pilgrim_111 rfl (lv_at hl 3 rfl) ?_
          refine lv_iadd hx hb dX11_pilgrim_112 ?_
          refine lv_topi (fun x_12 ex_12 => ?_)
          try have vx_12 := b_add (rfl : x_11.toInt = _) (rfl : p2.toInt = _) ex_12 (by omega) (by omega)
          refine lv_iconst (v := 5) hx hb dX11_pilgrim_113 (by decide) ?_
          refine lv_isub hx hb dX11_pilgrim_114 ?_
          refine lv_topi (fun x_13 ex_13 => ?_)
          try have vx_13 := b_sub (rfl : x_12.toInt = _) (by decide : (5 : Int32).toInt = 5) ex_13 (by omega) (by omega)
          refine t_ai hx hb hK hB mb_10 tb_10 ai_49 (fun _ => rfl) (i_in (by omega) (by omega)) dX11_pilgrim_115 (fun x_14 ex_14 lx_14 ux_14 => ?_)
          have cx_14 := congrArg Int32.toInt ex_14
          refine lv_goto (tgt := 120) hx hb dX11_pilgrim_116 (by decide) ?_
          exact W.iret (v := x_14) hx hb hr (fun t ht hW => ⟨⟨x_14, (σ, ρ_2), rfl, ⟨hB.2.1, hB.2.2, trivial⟩, (show TP D cA L T r σ ρ_2 t.heap from by rw [ht]; exact hB.1)⟩, hS.F ht⟩) hS.2.2 dX11_pilgrim_120
    · skip
      rcases (show p2.toInt = 0 ∨ p2.toInt = 1 ∨ p2.toInt = 2 ∨ p2.toInt = 3 ∨ p2.toInt = 4 by omega) with c_7j | c_7j | c_7j | c_7j | c_7j
      · skip
        have c_7x : p2 = 0 := i_is (by decide) c_7j
        subst c_7x
        have nnc_7 : (0 : Int32).toInt = 0 := by decide
        refine lv_tableIn (tgt := 52) hx hb dX11_pilgrim_19 (by decide) (by decide) rfl (by decide) ?_
        refine lv_aload_n hx hb dX11_pilgrim_52 rfl (lv_at hl 0 rfl) ?_
        refine t_gr hx hb hts hown hK hG hB mb_6 tb_6 fq_8_0 rfl mw_1_84 dX11_pilgrim_53 (fun b_15 hb_15 mb_15 tb_15 => ?_)
        refine lv_iload_n hx hb dX11_pilgrim_56 rfl (lv_at hl 2 rfl) ?_
        refine t_ai hx hb hK hB mb_15 tb_15 ai_45 (fun _ => rfl) (i_in (by omega) (by omega)) dX11_pilgrim_57 (fun x_16 ex_16 lx_16 ux_16 => ?_)
        have cx_16 := congrArg Int32.toInt ex_16
        exact W.iret (v := x_16) hx hb hr (fun t ht hW => ⟨⟨x_16, (σ, ρ_2), rfl, ⟨hB.2.1, hB.2.2, trivial⟩, (show TP D cA L T r σ ρ_2 t.heap from by rw [ht]; exact hB.1)⟩, hS.F ht⟩) hS.2.2 dX11_pilgrim_58
      · skip
        have c_7x : p2 = 1 := i_is (by decide) c_7j
        subst c_7x
        have nnc_7 : (1 : Int32).toInt = 1 := by decide
        refine lv_tableIn (tgt := 59) hx hb dX11_pilgrim_19 (by decide) (by decide) rfl (by decide) ?_
        refine lv_aload_n hx hb dX11_pilgrim_59 rfl (lv_at hl 0 rfl) ?_
        refine t_gr hx hb hts hown hK hG hB mb_6 tb_6 fq_8_1 rfl mw_1_86 dX11_pilgrim_60 (fun b_17 hb_17 mb_17 tb_17 => ?_)
        refine lv_iload_n hx hb dX11_pilgrim_63 rfl (lv_at hl 2 rfl) ?_
        refine t_ai hx hb hK hB mb_17 tb_17 ai_46 (fun _ => rfl) (i_in (by omega) (by omega)) dX11_pilgrim_64 (fun x_18 ex_18 lx_18 ux_18 => ?_)
        have cx_18 := congrArg Int32.toInt ex_18
        exact W.iret (v := x_18) hx hb hr (fun t ht hW => ⟨⟨x_18, (σ, ρ_2), rfl, ⟨hB.2.1, hB.2.2, trivial⟩, (show TP D cA L T r σ ρ_2 t.heap from by rw [ht]; exact hB.1)⟩, hS.F ht⟩) hS.2.2 dX11_pilgrim_65
      · skip
        have c_7x : p2 = 2 := i_is (by decide) c_7j
        subst c_7x
        have nnc_7 : (2 : Int32).toInt = 2 := by decide
        refine lv_tableIn (tgt := 66) hx hb dX11_pilgrim_19 (by decide) (by decide) rfl (by decide) ?_
        refine lv_aload_n hx hb dX11_pilgrim_66 rfl (lv_at hl 0 rfl) ?_
        refine t_gr hx hb hts hown hK hG hB mb_6 tb_6 fq_8_2 rfl mw_1_91 dX11_pilgrim_67 (fun b_19 hb_19 mb_19 tb_19 => ?_)
        refine lv_iload_n hx hb dX11_pilgrim_70 rfl (lv_at hl 2 rfl) ?_
        refine t_ai hx hb hK hB mb_19 tb_19 ai_47 (fun _ => rfl) (i_in (by omega) (by omega)) dX11_pilgrim_71 (fun x_20 ex_20 lx_20 ux_20 => ?_)
        have cx_20 := congrArg Int32.toInt ex_20
        exact W.iret (v := x_20) hx hb hr (fun t ht hW => ⟨⟨x_20, (σ, ρ_2), rfl, ⟨hB.2.1, hB.2.2, trivial⟩, (show TP D cA L T r σ ρ_2 t.heap from by rw [ht]; exact hB.1)⟩, hS.F ht⟩) hS.2.2 dX11_pilgrim_72
      · skip
        have c_7x : p2 = 3 := i_is (by decide) c_7j
        subst c_7x
        have nnc_7 : (3 : Int32).toInt = 3 := by decide
        refine lv_tableIn (tgt := 73) hx hb dX11_pilgrim_19 (by decide) (by decide) rfl (by decide) ?_
        refine lv_aload_n hx hb dX11_pilgrim_73 rfl (lv_at hl 0 rfl) ?_
        refine t_gr hx hb hts hown hK hG hB mb_6 tb_6 fq_8_3 rfl mw_1_94 dX11_pilgrim_74 (fun b_21 hb_21 mb_21 tb_21 => ?_)
        refine lv_iload_n hx hb dX11_pilgrim_77 rfl (lv_at hl 2 rfl) ?_
        refine t_ai hx hb hK hB mb_21 tb_21 ai_48 (fun _ => rfl) (i_in (by omega) (by omega)) dX11_pilgrim_78 (fun x_22 ex_22 lx_22 ux_22 => ?_)
        have cx_22 := congrArg Int32.toInt ex_22
        exact W.iret (v := x_22) hx hb hr (fun t ht hW => ⟨⟨x_22, (σ, ρ_2), rfl, ⟨hB.2.1, hB.2.2, trivial⟩, (show TP D cA L T r σ ρ_2 t.heap from by rw [ht]; exact hB.1)⟩, hS.F ht⟩) hS.2.2 dX11_pilgrim_79
      · skip
        have c_7x : p2 = 4 := i_is (by decide) c_7j
        subst c_7x
        have nnc_7 : (4 : Int32).toInt = 4 := by decide
        refine lv_tableIn (tgt := 80) hx hb dX11_pilgrim_19 (by decide) (by decide) rfl (by decide) ?_
        refine lv_aload_n hx hb dX11_pilgrim_80 rfl (lv_at hl 0 rfl) ?_
        refine lv_aload_n hx hb dX11_pilgrim_81 rfl (lv_at hl 1 rfl) ?_
        refine t_gk hx hb hts hown hK hB mh0 th0 fq_11_3 hb_5 mw_2_210 dX11_pilgrim_82 ?_
        refine t_gr hx hb hts hown hK hG hB mb_5 tb_5 fq_10_0 rfl mw_1_236 dX11_pilgrim_85 (fun b_23 hb_23 mb_23 tb_23 => ?_)
        refine lv_iload_n hx hb dX11_pilgrim_88 rfl (lv_at hl 2 rfl) ?_
        refine t_ci (va_runV (As := [.ref b_23, .int p1]) (rest := []) ⟨hx, hb, hml, hown, hts⟩ (cy_X8_weightOf_8 l D cA L T r hG hLA.1 σ ρ_2 hB.2.1 _ b_6 mb_6 tb_6 b_23 mb_23 tb_23 p1 (by first | omega | decide) (by first | omega | decide)) (cV hts mv_X8_weightOf mw_4_74 rfl rfl ⟨Nat.le_of_ble_eq_true rfl, Nat.le_of_ble_eq_true rfl⟩) (pV hB.1 hK hN mb_6 tb_6 (show shp cA 8 _ _ _ = .inr (8, Fs8 _ _ _) from rfl) rfl) rfl rfl hl.1 rfl (lv_room (Nat.le_of_ble_eq_true rfl)) dX11_pilgrim_89 ⟨Nat.le_of_ble_eq_true rfl, Nat.le_of_ble_eq_true rfl⟩) hLA hA hB hS (by decide) (fun x_26 σ_24 ρ_25 H locs hB fσ_24 pσ_24 hS => ?_)
        have qσ_24 := FR.nil fσ_24
        subst qσ_24
        exact W.iret (v := x_26) hx hb hr (fun t ht hW => ⟨⟨x_26, (σ, ρ_25), rfl, ⟨hB.2.1, hB.2.2, trivial⟩, (show TP D cA L T r σ ρ_25 t.heap from by rw [ht]; exact hB.1)⟩, hS.F ht⟩) hS.2.2 dX11_pilgrim_92
  · skip
    have uc_4 := i_eq (n := 0) (by decide) c_4
    refine lv_iconst (v := (-1)) hx hb dX11_pilgrim_8 (by decide) ?_
    exact W.iret (v := (-1)) hx hb hr (fun t ht hW => ⟨⟨(-1), (σ, ρ_2), rfl, ⟨hB.2.1, hB.2.2, trivial⟩, (show TP D cA L T r σ ρ_2 t.heap from by rw [ht]; exact hB.1)⟩, hS.F ht⟩) hS.2.2 dX11_pilgrim_9
theorem mw_4_81 : (.instanceMethod yX11_isBend : Cond) ∈ wsA := wsA_t (List.mem_append_right _ (List.mem_append_right _ (List.mem_append_right _ (List.mem_append_left _ (List.mem_of_getElem? (l := tables_1_4) (i := 81) rfl))))) rfl
theorem mp_2_7 : (.selects RX11 yX11_isBend yX11_isBend : Cond) ∈ wsA := wsA_p (q := (yX11_isBend, 12)) (List.mem_append_right _ (List.mem_append_left _ (List.mem_of_getElem? (l := lw_privs_2) (i := 7) rfl)))
theorem mw_4_82 : (.code yX11_isBend cX11_isBend 2 (some .boolean) : Cond) ∈ wsA := wsA_t (List.mem_append_right _ (List.mem_append_right _ (List.mem_append_right _ (List.mem_append_left _ (List.mem_of_getElem? (l := tables_1_4) (i := 82) rfl))))) rfl
theorem mw_4_79 : (.methodLink RX11 147 yX11_isBend : Cond) ∈ wsA := wsA_t (List.mem_append_right _ (List.mem_append_right _ (List.mem_append_right _ (List.mem_append_left _ (List.mem_of_getElem? (l := tables_1_4) (i := 79) rfl))))) rfl
theorem mw_1_103 : (.fieldLink RX11 163 "HillBends$Scene" "heap" "[I" : Cond) ∈ wsA := wsA_t (List.mem_append_left _ (List.mem_of_getElem? (l := tables_1_1) (i := 103) rfl)) rfl
theorem mw_1_151 : (.fieldLink RX11 150 "HillBends$Hill" "first" "[I" : Cond) ∈ wsA := wsA_t (List.mem_append_left _ (List.mem_of_getElem? (l := tables_1_1) (i := 151) rfl)) rfl
theorem mw_1_156 : (.fieldLink RX11 153 "HillBends$Hill" "second" "[I" : Cond) ∈ wsA := wsA_t (List.mem_append_left _ (List.mem_of_getElem? (l := tables_1_1) (i := 156) rfl)) rfl
theorem mw_1_109 : (.fieldLink RX11 156 "HillBends$Scene" "seconds" "I" : Cond) ∈ wsA := wsA_t (List.mem_append_left _ (List.mem_of_getElem? (l := tables_1_1) (i := 109) rfl)) rfl
theorem mw_4_83 : (.methodLink RX11 159 yX3_askedAt : Cond) ∈ wsA := wsA_t (List.mem_append_right _ (List.mem_append_right _ (List.mem_append_right _ (List.mem_append_left _ (List.mem_of_getElem? (l := tables_1_4) (i := 83) rfl))))) rfl
theorem dX11_bend_0 : decode cX11_bend 0 = .ok (.aload_n 0, 1) := by decide +kernel
theorem dX11_bend_1 : decode cX11_bend 1 = .ok (.iload_n 1, 1) := by decide +kernel
theorem dX11_bend_2 : decode cX11_bend 2 = .ok (.invokevirtual 147, 3) := by decide +kernel
theorem dX11_bend_5 : decode cX11_bend 5 = .ok (.ifCond .ne 5, 3) := by decide +kernel
theorem dX11_bend_10 : decode cX11_bend 10 = .ok (.aload_n 0, 1) := by decide +kernel
theorem dX11_bend_11 : decode cX11_bend 11 = .ok (.getfield 32, 3) := by decide +kernel
theorem dX11_bend_14 : decode cX11_bend 14 = .ok (.getfield 102, 3) := by decide +kernel
theorem dX11_bend_17 : decode cX11_bend 17 = .ok (.astore_n 3, 1) := by decide +kernel
theorem dX11_bend_18 : decode cX11_bend 18 = .ok (.iload_n 2, 1) := by decide +kernel
theorem dX11_bend_19 : decode cX11_bend 19 = .ok (.tableswitch 55 0 2 #[25, 32, 39], 25) := by decide +kernel
theorem dX11_bend_74 : decode cX11_bend 74 = .ok (.iload_n 2, 1) := by decide +kernel
theorem dX11_bend_75 : decode cX11_bend 75 = .ok (.iconst 3, 1) := by decide +kernel
theorem dX11_bend_76 : decode cX11_bend 76 = .ok (.if_icmp .lt 30, 3) := by decide +kernel
theorem dX11_bend_106 : decode cX11_bend 106 = .ok (.iconst (-1), 1) := by decide +kernel
theorem dX11_bend_107 : decode cX11_bend 107 = .ok (.ireturn, 1) := by decide +kernel
theorem dX11_bend_79 : decode cX11_bend 79 = .ok (.iload_n 2, 1) := by decide +kernel
theorem dX11_bend_80 : decode cX11_bend 80 = .ok (.bipush 8, 2) := by decide +kernel
theorem dX11_bend_82 : decode cX11_bend 82 = .ok (.if_icmp .ge 24, 3) := by decide +kernel
theorem dX11_bend_85 : decode cX11_bend 85 = .ok (.aload_n 0, 1) := by decide +kernel
theorem dX11_bend_86 : decode cX11_bend 86 = .ok (.getfield 32, 3) := by decide +kernel
theorem dX11_bend_89 : decode cX11_bend 89 = .ok (.getfield 121, 3) := by decide +kernel
theorem dX11_bend_92 : decode cX11_bend 92 = .ok (.getfield 163, 3) := by decide +kernel
theorem dX11_bend_95 : decode cX11_bend 95 = .ok (.iload_n 1, 1) := by decide +kernel
theorem dX11_bend_96 : decode cX11_bend 96 = .ok (.iconst 5, 1) := by decide +kernel
theorem dX11_bend_97 : decode cX11_bend 97 = .ok (.imul, 1) := by decide +kernel
theorem dX11_bend_98 : decode cX11_bend 98 = .ok (.iload_n 2, 1) := by decide +kernel
theorem dX11_bend_99 : decode cX11_bend 99 = .ok (.iadd, 1) := by decide +kernel
theorem dX11_bend_100 : decode cX11_bend 100 = .ok (.iconst 3, 1) := by decide +kernel
theorem dX11_bend_101 : decode cX11_bend 101 = .ok (.isub, 1) := by decide +kernel
theorem dX11_bend_102 : decode cX11_bend 102 = .ok (.iaload, 1) := by decide +kernel
theorem dX11_bend_103 : decode cX11_bend 103 = .ok (.goto 4, 3) := by decide +kernel
theorem dX11_bend_44 : decode cX11_bend 44 = .ok (.aload_n 3, 1) := by decide +kernel
theorem dX11_bend_45 : decode cX11_bend 45 = .ok (.getfield 150, 3) := by decide +kernel
theorem dX11_bend_48 : decode cX11_bend 48 = .ok (.iload_n 1, 1) := by decide +kernel
theorem dX11_bend_49 : decode cX11_bend 49 = .ok (.iaload, 1) := by decide +kernel
theorem dX11_bend_50 : decode cX11_bend 50 = .ok (.ireturn, 1) := by decide +kernel
theorem dX11_bend_51 : decode cX11_bend 51 = .ok (.aload_n 3, 1) := by decide +kernel
theorem dX11_bend_52 : decode cX11_bend 52 = .ok (.getfield 153, 3) := by decide +kernel
theorem dX11_bend_55 : decode cX11_bend 55 = .ok (.iload_n 1, 1) := by decide +kernel
theorem dX11_bend_56 : decode cX11_bend 56 = .ok (.iaload, 1) := by decide +kernel
theorem dX11_bend_57 : decode cX11_bend 57 = .ok (.ireturn, 1) := by decide +kernel
theorem dX11_bend_58 : decode cX11_bend 58 = .ok (.aload_n 3, 1) := by decide +kernel
theorem dX11_bend_59 : decode cX11_bend 59 = .ok (.iload_n 1, 1) := by decide +kernel
theorem dX11_bend_60 : decode cX11_bend 60 = .ok (.aload_n 0, 1) := by decide +kernel
theorem dX11_bend_61 : decode cX11_bend 61 = .ok (.getfield 32, 3) := by decide +kernel
theorem dX11_bend_64 : decode cX11_bend 64 = .ok (.getfield 121, 3) := by decide +kernel
theorem dX11_bend_67 : decode cX11_bend 67 = .ok (.getfield 156, 3) := by decide +kernel
theorem dX11_bend_70 : decode cX11_bend 70 = .ok (.invokevirtual 159, 3) := by decide +kernel
theorem dX11_bend_73 : decode cX11_bend 73 = .ok (.ireturn, 1) := by decide +kernel
theorem dX11_bend_8 : decode cX11_bend 8 = .ok (.iconst (-1), 1) := by decide +kernel
theorem dX11_bend_9 : decode cX11_bend 9 = .ok (.ireturn, 1) := by decide +kernel
theorem mv_X11_isBend : MV RX11 yX11_isBend cX11_isBend 2 (some .boolean) 1 := ⟨mw_4_81, mp_2_7, mw_1_1, mw_4_82, ⟨rfl, by decide, by decide, by decide +kernel⟩⟩
set_option maxHeartbeats 4000000 in
set_option maxRecDepth 100000 in
theorem cy_X11_bend (l : Launch) (D : va_G) (cA : Nat → ClassId) (L : List Nat) (T : Nat → Nat) (r : Rg) (hG : GR L T r) (hL : L.Nodup) (σ : Sg) (ρ : Lg) (hW : WT L ry T σ) (sz : Nat) (h0 : Nat) (mh0 : h0 ∈ L) (th0 : T h0 = 11) (p1 : Int32) (p2 : Int32) : Met l yX11_bend (.code yX11_bend cX11_bend 4 (some .int) :: wsA) ({ frames := 1, cells := 0, slots := 0, locals := 22 }) (PR D cA L T r σ ρ sz [.ref h0, .int p1, .int p2]) (QI D cA L T r ry ([] : List (Nat × Nat)) σ sz (fun x σ1 => True)) 0 0 (dm L sz) := by
  refine Met.ofW (cc := cX11_bend) (maxL := 4) (ret := (some .int)) (by decide) rfl ?_
  intro p e s m args below meth c s₁ B hml hv
  obtain ⟨rfl, hsz, hP, hK, hN⟩ := hv
  have hx := B.exec
  have hb := B.bytes
  have hr := B.returns
  have hts : ∀ w ∈ wsA, w.before _ s = true := fun w h => atoms_spec (ws := .code yX11_bend cX11_bend 4 (some .int) :: wsA) B.pre w (List.mem_cons_of_mem _ h)
  have hown : s.vm.findClass RX11 = some m.cls := findClass_of_methodNamed B.named
  subst hsz
  have hLA : LA (dm L s.heap.size) L := ⟨hL, fun a h => Or.inl h⟩
  have hA : ∀ q : Nat, s.heap.size ≤ q → dm L s.heap.size q := fun q h => Or.inr h
  have hS : va_S (dm L s.heap.size) s.heap s.heap [] := va_S.rf
  have hB : TS D cA L T r ry ([] : List (Nat × Nat)) σ σ ρ s.heap := ⟨hP, hW, FR.rf⟩
  have hl := lv_entry ([.ref h0, .int p1, .int p2]) (n := 4) (Nat.le_of_ble_eq_true rfl)
  rw [lg_entry_eq]
  generalize (lg_sl ([.ref h0, .int p1, .int p2]) ++ List.replicate (4 - (lg_sl ([.ref h0, .int p1, .int p2])).length) Slot.unset).toArray = ls at hl ⊢
  have hl : lv_has ls 4 [(0, .ref h0), (1, .int p1), (2, .int p2)] := hl
  refine lv_aload_n hx hb dX11_bend_0 rfl (lv_at hl 0 rfl) ?_
  refine lv_iload_n hx hb dX11_bend_1 rfl (lv_at hl 1 rfl) ?_
  refine t_ci (va_runV (As := [.int p1]) (rest := []) ⟨hx, hb, hml, hown, hts⟩ (cy_X11_isBend l D cA L T r hG hLA.1 σ ρ hB.2.1 _ h0 mh0 th0 p1) (cV hts mv_X11_isBend mw_4_79 rfl rfl ⟨Nat.le_of_ble_eq_true rfl, Nat.le_of_ble_eq_true rfl⟩) (pV hB.1 hK hN mh0 th0 (show shp cA 11 _ _ _ = .inr (11, Fs11 _ _ _) from rfl) rfl) rfl rfl hl.1 rfl (lv_room (Nat.le_of_ble_eq_true rfl)) dX11_bend_2 ⟨Nat.le_of_ble_eq_true rfl, Nat.le_of_ble_eq_true rfl⟩) hLA hA hB hS (by decide) (fun x_3 σ_1 ρ_2 H locs hB fσ_1 pσ_1 hS => ?_)
  have qσ_1 := FR.nil fσ_1
  subst qσ_1
  obtain ⟨ox_3, ix_3⟩ := pσ_1
  refine lv_if_ne (tgt := 10) hx hb dX11_bend_5 (by decide) (fun c_4 => ?_) (fun c_4 => ?_)
  · skip
    have uc_4 := i_ne (n := 0) (by decide) c_4
    refine lv_aload_n hx hb dX11_bend_10 rfl (lv_at hl 0 rfl) ?_
    refine t_gr hx hb hts hown hK hG hB mh0 th0 fq_11_3 rfl mw_2_210 dX11_bend_11 (fun b_5 hb_5 mb_5 tb_5 => ?_)
    refine t_gr hx hb hts hown hK hG hB mb_5 tb_5 fq_10_0 rfl mw_1_236 dX11_bend_14 (fun b_6 hb_6 mb_6 tb_6 => ?_)
    refine lv_astore_n (lv' := [(3, .ref b_6), (0, .ref h0), (1, .int p1), (2, .int p2)]) hx hb dX11_bend_17 rfl hl (by decide) rfl (fun ls hl => ?_)
    refine lv_iload_n hx hb dX11_bend_18 rfl (lv_at hl 3 rfl) ?_
    by_cases c_7 : p2.toInt < 0 ∨ 2 < p2.toInt
    · skip
      refine lv_tableOut (tgt := 74) hx hb dX11_bend_19 c_7 (by decide) ?_
      refine lv_iload_n hx hb dX11_bend_74 rfl (lv_at hl 3 rfl) ?_
      refine lv_iconst (v := 3) hx hb dX11_bend_75 (by decide) ?_
      refine lv_icmp_lt (tgt := 106) hx hb dX11_bend_76 (by decide) (fun c_8 => ?_) (fun c_8 => ?_)
      · skip
        have uc_8 := i_lt (n := 3) (by decide) c_8
        refine lv_iconst (v := (-1)) hx hb dX11_bend_106 (by decide) ?_
        exact W.iret (v := (-1)) hx hb hr (fun t ht hW => ⟨⟨(-1), (σ, ρ_2), rfl, ⟨hB.2.1, hB.2.2, trivial⟩, (show TP D cA L T r σ ρ_2 t.heap from by rw [ht]; exact hB.1)⟩, hS.F ht⟩) hS.2.2 dX11_bend_107
      · skip
        have uc_8 := i_nlt (n := 3) (by decide) c_8
        refine lv_iload_n hx hb dX11_bend_79 rfl (lv_at hl 3 rfl) ?_
        refine lv_bipush (v := 8) hx hb dX11_bend_80 (by decide) ?_
        refine lv_icmp_ge (tgt := 106) hx hb dX11_bend_82 (by decide) (fun c_9 => ?_) (fun c_9 => ?_)
        · skip
          have uc_9 := i_ge (n := 8) (by decide) c_9
          refine lv_iconst (v := (-1)) hx hb dX11_bend_106 (by decide) ?_
          exact W.iret (v := (-1)) hx hb hr (fun t ht hW => ⟨⟨(-1), (σ, ρ_2), rfl, ⟨hB.2.1, hB.2.2, trivial⟩, (show TP D cA L T r σ ρ_2 t.heap from by rw [ht]; exact hB.1)⟩, hS.F ht⟩) hS.2.2 dX11_bend_107
        · skip
          have uc_9 := i_nge (n := 8) (by decide) c_9
          refine lv_aload_n hx hb dX11_bend_85 rfl (lv_at hl 1 rfl) ?_
          refine t_gk hx hb hts hown hK hB mh0 th0 fq_11_3 hb_5 mw_2_210 dX11_bend_86 ?_
          refine t_gr hx hb hts hown hK hG hB mb_5 tb_5 fq_10_1 rfl mw_1_239 dX11_bend_89 (fun b_10 hb_10 mb_10 tb_10 => ?_)
          refine t_gr hx hb hts hown hK hG hB mb_10 tb_10 fq_8_5 rfl mw_1_103 dX11_bend_92 (fun b_11 hb_11 mb_11 tb_11 => ?_)
          refine lv_iload_n hx hb dX11_bend_95 rfl (lv_at hl 2 rfl) ?_
          refine lv_iconst (v := 5) hx hb dX11_bend_96 (by decide) ?_
          refine lv_imul hx hb dX11_bend_97 ?_
          refine lv_topi (fun x_12 ex_12 => ?_)
          try have vx_12 := b_mul (rfl : p1.toInt = _) (by decide : (5 : Int32).toInt = 5) ex_12 (by omega) (by omega)
          refine lv_iload_n hx hb dX11_bend_98 rfl (lv_at hl 3 rfl) ?_
          refine lv_iadd hx hb dX11_bend_99 ?_
          refine lv_topi (fun x_13 ex_13 => ?_)
          try have vx_13 := b_add (rfl : x_12.toInt = _) (rfl : p2.toInt = _) ex_13 (by omega) (by omega)
          refine lv_iconst (v := 3) hx hb dX11_bend_100 (by decide) ?_
          refine lv_isub hx hb dX11_bend_101 ?_
          refine lv_topi (fun x_14 ex_14 => ?_)
          try have vx_14 := b_sub (rfl : x_13.toInt = _) (by decide : (3 : Int32).toInt = 3) ex_14 (by omega) (by omega)
          refine t_ai hx hb hK hB mb_11 tb_11 ai_50 (fun _ => rfl) (i_in (by omega) (by omega)) dX11_bend_102 (fun x_15 ex_15 lx_15 ux_15 => ?_)
          have cx_15 := congrArg Int32.toInt ex_15
          refine lv_goto (tgt := 107) hx hb dX11_bend_103 (by decide) ?_
          exact W.iret (v := x_15) hx hb hr (fun t ht hW => ⟨⟨x_15, (σ, ρ_2), rfl, ⟨hB.2.1, hB.2.2, trivial⟩, (show TP D cA L T r σ ρ_2 t.heap from by rw [ht]; exact hB.1)⟩, hS.F ht⟩) hS.2.2 dX11_bend_107
    · skip
      rcases (show p2.toInt = 0 ∨ p2.toInt = 1 ∨ p2.toInt = 2 by omega) with c_7j | c_7j | c_7j
      · skip
        have c_7x : p2 = 0 := i_is (by decide) c_7j
        subst c_7x
        have nnc_7 : (0 : Int32).toInt = 0 := by decide
        refine lv_tableIn (tgt := 44) hx hb dX11_bend_19 (by decide) (by decide) rfl (by decide) ?_
        refine lv_aload_n hx hb dX11_bend_44 rfl (lv_at hl 0 rfl) ?_
        refine t_gr hx hb hts hown hK hG hB mb_6 tb_6 fq_3_3 rfl mw_1_151 dX11_bend_45 (fun b_16 hb_16 mb_16 tb_16 => ?_)
        refine lv_iload_n hx hb dX11_bend_48 rfl (lv_at hl 2 rfl) ?_
        refine t_ai hx hb hK hB mb_16 tb_16 ai_36 (fun _ => rfl) (i_in (by omega) (by omega)) dX11_bend_49 (fun x_17 ex_17 lx_17 ux_17 => ?_)
        have cx_17 := congrArg Int32.toInt ex_17
        exact W.iret (v := x_17) hx hb hr (fun t ht hW => ⟨⟨x_17, (σ, ρ_2), rfl, ⟨hB.2.1, hB.2.2, trivial⟩, (show TP D cA L T r σ ρ_2 t.heap from by rw [ht]; exact hB.1)⟩, hS.F ht⟩) hS.2.2 dX11_bend_50
      · skip
        have c_7x : p2 = 1 := i_is (by decide) c_7j
        subst c_7x
        have nnc_7 : (1 : Int32).toInt = 1 := by decide
        refine lv_tableIn (tgt := 51) hx hb dX11_bend_19 (by decide) (by decide) rfl (by decide) ?_
        refine lv_aload_n hx hb dX11_bend_51 rfl (lv_at hl 0 rfl) ?_
        refine t_gr hx hb hts hown hK hG hB mb_6 tb_6 fq_3_4 rfl mw_1_156 dX11_bend_52 (fun b_18 hb_18 mb_18 tb_18 => ?_)
        refine lv_iload_n hx hb dX11_bend_55 rfl (lv_at hl 2 rfl) ?_
        refine t_ai hx hb hK hB mb_18 tb_18 ai_37 (fun _ => rfl) (i_in (by omega) (by omega)) dX11_bend_56 (fun x_19 ex_19 lx_19 ux_19 => ?_)
        have cx_19 := congrArg Int32.toInt ex_19
        exact W.iret (v := x_19) hx hb hr (fun t ht hW => ⟨⟨x_19, (σ, ρ_2), rfl, ⟨hB.2.1, hB.2.2, trivial⟩, (show TP D cA L T r σ ρ_2 t.heap from by rw [ht]; exact hB.1)⟩, hS.F ht⟩) hS.2.2 dX11_bend_57
      · skip
        have c_7x : p2 = 2 := i_is (by decide) c_7j
        subst c_7x
        have nnc_7 : (2 : Int32).toInt = 2 := by decide
        refine lv_tableIn (tgt := 58) hx hb dX11_bend_19 (by decide) (by decide) rfl (by decide) ?_
        refine lv_aload_n hx hb dX11_bend_58 rfl (lv_at hl 0 rfl) ?_
        refine lv_iload_n hx hb dX11_bend_59 rfl (lv_at hl 2 rfl) ?_
        refine lv_aload_n hx hb dX11_bend_60 rfl (lv_at hl 1 rfl) ?_
        refine t_gk hx hb hts hown hK hB mh0 th0 fq_11_3 hb_5 mw_2_210 dX11_bend_61 ?_
        refine t_gr hx hb hts hown hK hG hB mb_5 tb_5 fq_10_1 rfl mw_1_239 dX11_bend_64 (fun b_20 hb_20 mb_20 tb_20 => ?_)
        refine t_gi hx hb hts hown hK hB mb_20 tb_20 fi_8_6 rfl mw_1_109 dX11_bend_67 (fun x_21 ex_21 lx_21 ux_21 => ?_)
        have cx_21 := congrArg Int32.toInt ex_21
        refine t_ci (va_runV (As := [.int p1, .int x_21]) (rest := []) ⟨hx, hb, hml, hown, hts⟩ (cy_X3_askedAt l D cA L T r hG hLA.1 σ ρ_2 hB.2.1 _ b_6 mb_6 tb_6 p1 x_21 (by first | omega | decide) (by first | omega | decide)) (cV hts mv_X3_askedAt mw_4_83 rfl rfl ⟨Nat.le_of_ble_eq_true rfl, Nat.le_of_ble_eq_true rfl⟩) (pV hB.1 hK hN mb_6 tb_6 (show shp cA 3 _ _ _ = .inr (3, Fs3 _ _ _) from rfl) rfl) rfl rfl hl.1 rfl (lv_room (Nat.le_of_ble_eq_true rfl)) dX11_bend_70 ⟨Nat.le_of_ble_eq_true rfl, Nat.le_of_ble_eq_true rfl⟩) hLA hA hB hS (by decide) (fun x_24 σ_22 ρ_23 H locs hB fσ_22 pσ_22 hS => ?_)
        have qσ_22 := FR.nil fσ_22
        subst qσ_22
        obtain ⟨lx_24, ux_24⟩ := pσ_22
        exact W.iret (v := x_24) hx hb hr (fun t ht hW => ⟨⟨x_24, (σ, ρ_23), rfl, ⟨hB.2.1, hB.2.2, trivial⟩, (show TP D cA L T r σ ρ_23 t.heap from by rw [ht]; exact hB.1)⟩, hS.F ht⟩) hS.2.2 dX11_bend_73
  · skip
    have uc_4 := i_eq (n := 0) (by decide) c_4
    refine lv_iconst (v := (-1)) hx hb dX11_bend_8 (by decide) ?_
    exact W.iret (v := (-1)) hx hb hr (fun t ht hW => ⟨⟨(-1), (σ, ρ_2), rfl, ⟨hB.2.1, hB.2.2, trivial⟩, (show TP D cA L T r σ ρ_2 t.heap from by rw [ht]; exact hB.1)⟩, hS.F ht⟩) hS.2.2 dX11_bend_9
theorem mw_1_134 : (.fieldLink RX11 169 "HillBends$Hill" "weight" "[I" : Cond) ∈ wsA := wsA_t (List.mem_append_left _ (List.mem_of_getElem? (l := tables_1_1) (i := 134) rfl)) rfl
theorem mw_1_140 : (.fieldLink RX11 172 "HillBends$Hill" "worth" "[I" : Cond) ∈ wsA := wsA_t (List.mem_append_left _ (List.mem_of_getElem? (l := tables_1_1) (i := 140) rfl)) rfl
theorem mw_1_144 : (.fieldLink RX11 175 "HillBends$Hill" "price" "[I" : Cond) ∈ wsA := wsA_t (List.mem_append_left _ (List.mem_of_getElem? (l := tables_1_1) (i := 144) rfl)) rfl
theorem dX11_sort_0 : decode cX11_sort 0 = .ok (.aload_n 0, 1) := by decide +kernel
theorem dX11_sort_1 : decode cX11_sort 1 = .ok (.iload_n 1, 1) := by decide +kernel
theorem dX11_sort_2 : decode cX11_sort 2 = .ok (.invokevirtual 166, 3) := by decide +kernel
theorem dX11_sort_5 : decode cX11_sort 5 = .ok (.ifCond .ne 5, 3) := by decide +kernel
theorem dX11_sort_10 : decode cX11_sort 10 = .ok (.aload_n 0, 1) := by decide +kernel
theorem dX11_sort_11 : decode cX11_sort 11 = .ok (.getfield 32, 3) := by decide +kernel
theorem dX11_sort_14 : decode cX11_sort 14 = .ok (.getfield 102, 3) := by decide +kernel
theorem dX11_sort_17 : decode cX11_sort 17 = .ok (.astore_n 3, 1) := by decide +kernel
theorem dX11_sort_18 : decode cX11_sort 18 = .ok (.iload_n 2, 1) := by decide +kernel
theorem dX11_sort_19 : decode cX11_sort 19 = .ok (.tableswitch 46 0 2 #[25, 32, 39], 25) := by decide +kernel
theorem dX11_sort_65 : decode cX11_sort 65 = .ok (.iconst (-1), 1) := by decide +kernel
theorem dX11_sort_66 : decode cX11_sort 66 = .ok (.ireturn, 1) := by decide +kernel
theorem dX11_sort_44 : decode cX11_sort 44 = .ok (.aload_n 3, 1) := by decide +kernel
theorem dX11_sort_45 : decode cX11_sort 45 = .ok (.getfield 169, 3) := by decide +kernel
theorem dX11_sort_48 : decode cX11_sort 48 = .ok (.iload_n 1, 1) := by decide +kernel
theorem dX11_sort_49 : decode cX11_sort 49 = .ok (.iaload, 1) := by decide +kernel
theorem dX11_sort_50 : decode cX11_sort 50 = .ok (.ireturn, 1) := by decide +kernel
theorem dX11_sort_51 : decode cX11_sort 51 = .ok (.aload_n 3, 1) := by decide +kernel
theorem dX11_sort_52 : decode cX11_sort 52 = .ok (.getfield 172, 3) := by decide +kernel
theorem dX11_sort_55 : decode cX11_sort 55 = .ok (.iload_n 1, 1) := by decide +kernel
theorem dX11_sort_56 : decode cX11_sort 56 = .ok (.iaload, 1) := by decide +kernel
theorem dX11_sort_57 : decode cX11_sort 57 = .ok (.ireturn, 1) := by decide +kernel
theorem dX11_sort_58 : decode cX11_sort 58 = .ok (.aload_n 3, 1) := by decide +kernel
theorem dX11_sort_59 : decode cX11_sort 59 = .ok (.getfield 175, 3) := by decide +kernel
theorem dX11_sort_62 : decode cX11_sort 62 = .ok (.iload_n 1, 1) := by decide +kernel
theorem dX11_sort_63 : decode cX11_sort 63 = .ok (.iaload, 1) := by decide +kernel
theorem dX11_sort_64 : decode cX11_sort 64 = .ok (.ireturn, 1) := by decide +kernel
theorem dX11_sort_8 : decode cX11_sort 8 = .ok (.iconst (-1), 1) := by decide +kernel
theorem dX11_sort_9 : decode cX11_sort 9 = .ok (.ireturn, 1) := by decide +kernel
set_option maxHeartbeats 4000000 in
set_option maxRecDepth 100000 in
theorem cy_X11_sort (l : Launch) (D : va_G) (cA : Nat → ClassId) (L : List Nat) (T : Nat → Nat) (r : Rg) (hG : GR L T r) (hL : L.Nodup) (σ : Sg) (ρ : Lg) (hW : WT L ry T σ) (sz : Nat) (h0 : Nat) (mh0 : h0 ∈ L) (th0 : T h0 = 11) (p1 : Int32) (p2 : Int32) : Met l yX11_sort (.code yX11_sort cX11_sort 4 (some .int) :: wsA) ({ frames := 1, cells := 0, slots := 0, locals := 21 }) (PR D cA L T r σ ρ sz [.ref h0, .int p1, .int p2]) (QI D cA L T r ry ([] : List (Nat × Nat)) σ sz (fun x σ1 => True)) 0 0 (dm L sz) := by
  refine Met.ofW (cc := cX11_sort) (maxL := 4) (ret := (some .int)) (by decide) rfl ?_
  intro p e s m args below meth c s₁ B hml hv
  obtain ⟨rfl, hsz, hP, hK, hN⟩ := hv
  have hx := B.exec
  have hb := B.bytes
  have hr := B.returns
  have hts : ∀ w ∈ wsA, w.before _ s = true := fun w h => atoms_spec (ws := .code yX11_sort cX11_sort 4 (some .int) :: wsA) B.pre w (List.mem_cons_of_mem _ h)
  have hown : s.vm.findClass RX11 = some m.cls := findClass_of_methodNamed B.named
  subst hsz
  have hLA : LA (dm L s.heap.size) L := ⟨hL, fun a h => Or.inl h⟩
  have hA : ∀ q : Nat, s.heap.size ≤ q → dm L s.heap.size q := fun q h => Or.inr h
  have hS : va_S (dm L s.heap.size) s.heap s.heap [] := va_S.rf
  have hB : TS D cA L T r ry ([] : List (Nat × Nat)) σ σ ρ s.heap := ⟨hP, hW, FR.rf⟩
  have hl := lv_entry ([.ref h0, .int p1, .int p2]) (n := 4) (Nat.le_of_ble_eq_true rfl)
  rw [lg_entry_eq]
  generalize (lg_sl ([.ref h0, .int p1, .int p2]) ++ List.replicate (4 - (lg_sl ([.ref h0, .int p1, .int p2])).length) Slot.unset).toArray = ls at hl ⊢
  have hl : lv_has ls 4 [(0, .ref h0), (1, .int p1), (2, .int p2)] := hl
  refine lv_aload_n hx hb dX11_sort_0 rfl (lv_at hl 0 rfl) ?_
  refine lv_iload_n hx hb dX11_sort_1 rfl (lv_at hl 1 rfl) ?_
  refine t_ci (va_runV (As := [.int p1]) (rest := []) ⟨hx, hb, hml, hown, hts⟩ (cy_X11_isSort l D cA L T r hG hLA.1 σ ρ hB.2.1 _ h0 mh0 th0 p1) (cV hts mv_X11_isSort mw_4_91 rfl rfl ⟨Nat.le_of_ble_eq_true rfl, Nat.le_of_ble_eq_true rfl⟩) (pV hB.1 hK hN mh0 th0 (show shp cA 11 _ _ _ = .inr (11, Fs11 _ _ _) from rfl) rfl) rfl rfl hl.1 rfl (lv_room (Nat.le_of_ble_eq_true rfl)) dX11_sort_2 ⟨Nat.le_of_ble_eq_true rfl, Nat.le_of_ble_eq_true rfl⟩) hLA hA hB hS (by decide) (fun x_3 σ_1 ρ_2 H locs hB fσ_1 pσ_1 hS => ?_)
  have qσ_1 := FR.nil fσ_1
  subst qσ_1
  obtain ⟨ox_3, ix_3⟩ := pσ_1
  refine lv_if_ne (tgt := 10) hx hb dX11_sort_5 (by decide) (fun c_4 => ?_) (fun c_4 => ?_)
  · skip
    have uc_4 := i_ne (n := 0) (by decide) c_4
    refine lv_aload_n hx hb dX11_sort_10 rfl (lv_at hl 0 rfl) ?_
    refine t_gr hx hb hts hown hK hG hB mh0 th0 fq_11_3 rfl mw_2_210 dX11_sort_11 (fun b_5 hb_5 mb_5 tb_5 => ?_)
    refine t_gr hx hb hts hown hK hG hB mb_5 tb_5 fq_10_0 rfl mw_1_236 dX11_sort_14 (fun b_6 hb_6 mb_6 tb_6 => ?_)
    refine lv_astore_n (lv' := [(3, .ref b_6), (0, .ref h0), (1, .int p1), (2, .int p2)]) hx hb dX11_sort_17 rfl hl (by decide) rfl (fun ls hl => ?_)
    refine lv_iload_n hx hb dX11_sort_18 rfl (lv_at hl 3 rfl) ?_
    by_cases c_7 : p2.toInt < 0 ∨ 2 < p2.toInt
    · skip
      refine lv_tableOut (tgt := 65) hx hb dX11_sort_19 c_7 (by decide) ?_
      refine lv_iconst (v := (-1)) hx hb dX11_sort_65 (by decide) ?_
      exact W.iret (v := (-1)) hx hb hr (fun t ht hW => ⟨⟨(-1), (σ, ρ_2), rfl, ⟨hB.2.1, hB.2.2, trivial⟩, (show TP D cA L T r σ ρ_2 t.heap from by rw [ht]; exact hB.1)⟩, hS.F ht⟩) hS.2.2 dX11_sort_66
    · skip
      rcases (show p2.toInt = 0 ∨ p2.toInt = 1 ∨ p2.toInt = 2 by omega) with c_7j | c_7j | c_7j
      · skip
        have c_7x : p2 = 0 := i_is (by decide) c_7j
        subst c_7x
        have nnc_7 : (0 : Int32).toInt = 0 := by decide
        refine lv_tableIn (tgt := 44) hx hb dX11_sort_19 (by decide) (by decide) rfl (by decide) ?_
        refine lv_aload_n hx hb dX11_sort_44 rfl (lv_at hl 0 rfl) ?_
        refine t_gr hx hb hts hown hK hG hB mb_6 tb_6 fq_3_0 rfl mw_1_134 dX11_sort_45 (fun b_8 hb_8 mb_8 tb_8 => ?_)
        refine lv_iload_n hx hb dX11_sort_48 rfl (lv_at hl 2 rfl) ?_
        refine t_ai hx hb hK hB mb_8 tb_8 ai_33 (fun _ => rfl) (i_in (by omega) (by omega)) dX11_sort_49 (fun x_9 ex_9 lx_9 ux_9 => ?_)
        have cx_9 := congrArg Int32.toInt ex_9
        exact W.iret (v := x_9) hx hb hr (fun t ht hW => ⟨⟨x_9, (σ, ρ_2), rfl, ⟨hB.2.1, hB.2.2, trivial⟩, (show TP D cA L T r σ ρ_2 t.heap from by rw [ht]; exact hB.1)⟩, hS.F ht⟩) hS.2.2 dX11_sort_50
      · skip
        have c_7x : p2 = 1 := i_is (by decide) c_7j
        subst c_7x
        have nnc_7 : (1 : Int32).toInt = 1 := by decide
        refine lv_tableIn (tgt := 51) hx hb dX11_sort_19 (by decide) (by decide) rfl (by decide) ?_
        refine lv_aload_n hx hb dX11_sort_51 rfl (lv_at hl 0 rfl) ?_
        refine t_gr hx hb hts hown hK hG hB mb_6 tb_6 fq_3_1 rfl mw_1_140 dX11_sort_52 (fun b_10 hb_10 mb_10 tb_10 => ?_)
        refine lv_iload_n hx hb dX11_sort_55 rfl (lv_at hl 2 rfl) ?_
        refine t_ai hx hb hK hB mb_10 tb_10 ai_34 (fun _ => rfl) (i_in (by omega) (by omega)) dX11_sort_56 (fun x_11 ex_11 lx_11 ux_11 => ?_)
        have cx_11 := congrArg Int32.toInt ex_11
        exact W.iret (v := x_11) hx hb hr (fun t ht hW => ⟨⟨x_11, (σ, ρ_2), rfl, ⟨hB.2.1, hB.2.2, trivial⟩, (show TP D cA L T r σ ρ_2 t.heap from by rw [ht]; exact hB.1)⟩, hS.F ht⟩) hS.2.2 dX11_sort_57
      · skip
        have c_7x : p2 = 2 := i_is (by decide) c_7j
        subst c_7x
        have nnc_7 : (2 : Int32).toInt = 2 := by decide
        refine lv_tableIn (tgt := 58) hx hb dX11_sort_19 (by decide) (by decide) rfl (by decide) ?_
        refine lv_aload_n hx hb dX11_sort_58 rfl (lv_at hl 0 rfl) ?_
        refine t_gr hx hb hts hown hK hG hB mb_6 tb_6 fq_3_2 rfl mw_1_144 dX11_sort_59 (fun b_12 hb_12 mb_12 tb_12 => ?_)
        refine lv_iload_n hx hb dX11_sort_62 rfl (lv_at hl 2 rfl) ?_
        refine t_ai hx hb hK hB mb_12 tb_12 ai_35 (fun _ => rfl) (i_in (by omega) (by omega)) dX11_sort_63 (fun x_13 ex_13 lx_13 ux_13 => ?_)
        have cx_13 := congrArg Int32.toInt ex_13
        exact W.iret (v := x_13) hx hb hr (fun t ht hW => ⟨⟨x_13, (σ, ρ_2), rfl, ⟨hB.2.1, hB.2.2, trivial⟩, (show TP D cA L T r σ ρ_2 t.heap from by rw [ht]; exact hB.1)⟩, hS.F ht⟩) hS.2.2 dX11_sort_64
  · skip
    have uc_4 := i_eq (n := 0) (by decide) c_4
    refine lv_iconst (v := (-1)) hx hb dX11_sort_8 (by decide) ?_
    exact W.iret (v := (-1)) hx hb hr (fun t ht hW => ⟨⟨(-1), (σ, ρ_2), rfl, ⟨hB.2.1, hB.2.2, trivial⟩, (show TP D cA L T r σ ρ_2 t.heap from by rw [ht]; exact hB.1)⟩, hS.F ht⟩) hS.2.2 dX11_sort_9
theorem mw_4_139 : (.methodLink RX11 200 yX8_canGoUp : Cond) ∈ wsA := wsA_t (List.mem_append_right _ (List.mem_append_right _ (List.mem_append_right _ (List.mem_append_left _ (List.mem_of_getElem? (l := tables_1_4) (i := 139) rfl))))) rfl
theorem mw_2_212 : (.fieldLink RX11 43 "HillBends" "history" "LHillBends$History;" : Cond) ∈ wsA := wsA_t (List.mem_append_right _ (List.mem_append_left _ (List.mem_of_getElem? (l := tables_1_2) (i := 212) rfl))) rfl
theorem mw_4_105 : (.instanceMethod yX5_keep : Cond) ∈ wsA := wsA_t (List.mem_append_right _ (List.mem_append_right _ (List.mem_append_right _ (List.mem_append_left _ (List.mem_of_getElem? (l := tables_1_4) (i := 105) rfl))))) rfl
theorem mw_4_106 : (.selects RX5 yX5_keep yX5_keep : Cond) ∈ wsA := wsA_t (List.mem_append_right _ (List.mem_append_right _ (List.mem_append_right _ (List.mem_append_left _ (List.mem_of_getElem? (l := tables_1_4) (i := 106) rfl))))) rfl
theorem mw_1_7 : (.initialized RX5 : Cond) ∈ wsA := wsA_t (List.mem_append_left _ (List.mem_of_getElem? (l := tables_1_1) (i := 7) rfl)) rfl
theorem mw_4_107 : (.code yX5_keep cX5_keep 2 none : Cond) ∈ wsA := wsA_t (List.mem_append_right _ (List.mem_append_right _ (List.mem_append_right _ (List.mem_append_left _ (List.mem_of_getElem? (l := tables_1_4) (i := 107) rfl))))) rfl
theorem mw_4_104 : (.methodLink RX11 188 yX5_keep : Cond) ∈ wsA := wsA_t (List.mem_append_right _ (List.mem_append_right _ (List.mem_append_right _ (List.mem_append_left _ (List.mem_of_getElem? (l := tables_1_4) (i := 104) rfl))))) rfl
theorem mw_4_144 : (.methodLink RX11 204 yX8_goUp : Cond) ∈ wsA := wsA_t (List.mem_append_right _ (List.mem_append_right _ (List.mem_append_right _ (List.mem_append_left _ (List.mem_of_getElem? (l := tables_1_4) (i := 144) rfl))))) rfl
theorem dX11_climb_0 : decode cX11_climb 0 = .ok (.aload_n 0, 1) := by decide +kernel
theorem dX11_climb_1 : decode cX11_climb 1 = .ok (.getfield 32, 3) := by decide +kernel
theorem dX11_climb_4 : decode cX11_climb 4 = .ok (.getfield 121, 3) := by decide +kernel
theorem dX11_climb_7 : decode cX11_climb 7 = .ok (.astore_n 2, 1) := by decide +kernel
theorem dX11_climb_8 : decode cX11_climb 8 = .ok (.aload_n 0, 1) := by decide +kernel
theorem dX11_climb_9 : decode cX11_climb 9 = .ok (.iload_n 1, 1) := by decide +kernel
theorem dX11_climb_10 : decode cX11_climb 10 = .ok (.invokevirtual 117, 3) := by decide +kernel
theorem dX11_climb_13 : decode cX11_climb 13 = .ok (.ifCond .eq 18, 3) := by decide +kernel
theorem dX11_climb_31 : decode cX11_climb 31 = .ok (.iconst (-1), 1) := by decide +kernel
theorem dX11_climb_32 : decode cX11_climb 32 = .ok (.ireturn, 1) := by decide +kernel
theorem dX11_climb_16 : decode cX11_climb 16 = .ok (.aload_n 2, 1) := by decide +kernel
theorem dX11_climb_17 : decode cX11_climb 17 = .ok (.aload_n 0, 1) := by decide +kernel
theorem dX11_climb_18 : decode cX11_climb 18 = .ok (.getfield 32, 3) := by decide +kernel
theorem dX11_climb_21 : decode cX11_climb 21 = .ok (.getfield 102, 3) := by decide +kernel
theorem dX11_climb_24 : decode cX11_climb 24 = .ok (.iload_n 1, 1) := by decide +kernel
theorem dX11_climb_25 : decode cX11_climb 25 = .ok (.invokevirtual 200, 3) := by decide +kernel
theorem dX11_climb_28 : decode cX11_climb 28 = .ok (.ifCond .ne 5, 3) := by decide +kernel
theorem dX11_climb_33 : decode cX11_climb 33 = .ok (.aload_n 0, 1) := by decide +kernel
theorem dX11_climb_34 : decode cX11_climb 34 = .ok (.getfield 43, 3) := by decide +kernel
theorem dX11_climb_37 : decode cX11_climb 37 = .ok (.aload_n 2, 1) := by decide +kernel
theorem dX11_climb_38 : decode cX11_climb 38 = .ok (.invokevirtual 188, 3) := by decide +kernel
theorem dX11_climb_41 : decode cX11_climb 41 = .ok (.aload_n 2, 1) := by decide +kernel
theorem dX11_climb_42 : decode cX11_climb 42 = .ok (.aload_n 0, 1) := by decide +kernel
theorem dX11_climb_43 : decode cX11_climb 43 = .ok (.getfield 32, 3) := by decide +kernel
theorem dX11_climb_46 : decode cX11_climb 46 = .ok (.getfield 102, 3) := by decide +kernel
theorem dX11_climb_49 : decode cX11_climb 49 = .ok (.iload_n 1, 1) := by decide +kernel
theorem dX11_climb_50 : decode cX11_climb 50 = .ok (.invokevirtual 204, 3) := by decide +kernel
theorem dX11_climb_53 : decode cX11_climb 53 = .ok (.aload_n 2, 1) := by decide +kernel
theorem dX11_climb_54 : decode cX11_climb 54 = .ok (.getfield 125, 3) := by decide +kernel
theorem dX11_climb_57 : decode cX11_climb 57 = .ok (.iload_n 1, 1) := by decide +kernel
theorem dX11_climb_58 : decode cX11_climb 58 = .ok (.iaload, 1) := by decide +kernel
theorem dX11_climb_59 : decode cX11_climb 59 = .ok (.ireturn, 1) := by decide +kernel
theorem mv_X5_keep : MV RX5 yX5_keep cX5_keep 2 none 1 := ⟨mw_4_105, mw_4_106, mw_1_7, mw_4_107, ⟨rfl, by decide, by decide, by decide +kernel⟩⟩
set_option maxHeartbeats 4000000 in
set_option maxRecDepth 100000 in
theorem cy_X11_climb (l : Launch) (D : va_G) (cA : Nat → ClassId) (L : List Nat) (T : Nat → Nat) (r : Rg) (hG : GR L T r) (hL : L.Nodup) (σ : Sg) (ρ : Lg) (hW : WT L ry T σ) (sz : Nat) (h0 : Nat) (mh0 : h0 ∈ L) (th0 : T h0 = 11) (p1 : Int32) : Met l yX11_climb (.code yX11_climb cX11_climb 3 (some .int) :: wsA) ({ frames := 3, cells := 0, slots := 0, locals := 142 }) (PR D cA L T r σ ρ sz [.ref h0, .int p1]) (QI D cA L T r ry [(5, 1), (5, 2), (45, 1000), (47, 1000), (49, 1000), (50, 1000), (102, 6), (102, 7), (119, 1000), (120, 1000), (121, 1000), (122, 1000), (123, 1000), (124, 1000)] σ sz (fun x σ1 => True)) 0 0 (dm L sz) := by
  refine Met.ofW (cc := cX11_climb) (maxL := 3) (ret := (some .int)) (by decide) rfl ?_
  intro p e s m args below meth c s₁ B hml hv
  obtain ⟨rfl, hsz, hP, hK, hN⟩ := hv
  have hx := B.exec
  have hb := B.bytes
  have hr := B.returns
  have hts : ∀ w ∈ wsA, w.before _ s = true := fun w h => atoms_spec (ws := .code yX11_climb cX11_climb 3 (some .int) :: wsA) B.pre w (List.mem_cons_of_mem _ h)
  have hown : s.vm.findClass RX11 = some m.cls := findClass_of_methodNamed B.named
  subst hsz
  have hLA : LA (dm L s.heap.size) L := ⟨hL, fun a h => Or.inl h⟩
  have hA : ∀ q : Nat, s.heap.size ≤ q → dm L s.heap.size q := fun q h => Or.inr h
  have hS : va_S (dm L s.heap.size) s.heap s.heap [] := va_S.rf
  have hB : TS D cA L T r ry [(5, 1), (5, 2), (45, 1000), (47, 1000), (49, 1000), (50, 1000), (102, 6), (102, 7), (119, 1000), (120, 1000), (121, 1000), (122, 1000), (123, 1000), (124, 1000)] σ σ ρ s.heap := ⟨hP, hW, FR.rf⟩
  have hl := lv_entry ([.ref h0, .int p1]) (n := 3) (Nat.le_of_ble_eq_true rfl)
  rw [lg_entry_eq]
  generalize (lg_sl ([.ref h0, .int p1]) ++ List.replicate (3 - (lg_sl ([.ref h0, .int p1])).length) Slot.unset).toArray = ls at hl ⊢
  have hl : lv_has ls 3 [(0, .ref h0), (1, .int p1)] := hl
  refine lv_aload_n hx hb dX11_climb_0 rfl (lv_at hl 0 rfl) ?_
  refine t_gr hx hb hts hown hK hG hB mh0 th0 fq_11_3 rfl mw_2_210 dX11_climb_1 (fun b_1 hb_1 mb_1 tb_1 => ?_)
  refine t_gr hx hb hts hown hK hG hB mb_1 tb_1 fq_10_1 rfl mw_1_239 dX11_climb_4 (fun b_2 hb_2 mb_2 tb_2 => ?_)
  refine lv_astore_n (lv' := [(2, .ref b_2), (0, .ref h0), (1, .int p1)]) hx hb dX11_climb_7 rfl hl (by decide) rfl (fun ls hl => ?_)
  refine lv_aload_n hx hb dX11_climb_8 rfl (lv_at hl 1 rfl) ?_
  refine lv_iload_n hx hb dX11_climb_9 rfl (lv_at hl 2 rfl) ?_
  refine t_ci (va_runV (As := [.int p1]) (rest := []) ⟨hx, hb, hml, hown, hts⟩ (cy_X11_isPilgrim l D cA L T r hG hLA.1 σ ρ hB.2.1 _ h0 mh0 th0 p1) (cV hts mv_X11_isPilgrim mw_4_70 rfl rfl ⟨Nat.le_of_ble_eq_true rfl, Nat.le_of_ble_eq_true rfl⟩) (pV hB.1 hK hN mh0 th0 (show shp cA 11 _ _ _ = .inr (11, Fs11 _ _ _) from rfl) rfl) rfl rfl hl.1 rfl (lv_room (Nat.le_of_ble_eq_true rfl)) dX11_climb_10 ⟨Nat.le_of_ble_eq_true rfl, Nat.le_of_ble_eq_true rfl⟩) hLA hA hB hS (by decide) (fun x_5 σ_3 ρ_4 H locs hB fσ_3 pσ_3 hS => ?_)
  have qσ_3 := FR.nil fσ_3
  subst qσ_3
  obtain ⟨ox_5, ix_5⟩ := pσ_3
  refine lv_if_eq (tgt := 31) hx hb dX11_climb_13 (by decide) (fun c_6 => ?_) (fun c_6 => ?_)
  · skip
    have uc_6 := i_eq (n := 0) (by decide) c_6
    refine lv_iconst (v := (-1)) hx hb dX11_climb_31 (by decide) ?_
    exact W.iret (v := (-1)) hx hb hr (fun t ht hW => ⟨⟨(-1), (σ, ρ_4), rfl, ⟨hB.2.1, hB.2.2, trivial⟩, (show TP D cA L T r σ ρ_4 t.heap from by rw [ht]; exact hB.1)⟩, hS.F ht⟩) hS.2.2 dX11_climb_32
  · skip
    have uc_6 := i_ne (n := 0) (by decide) c_6
    refine lv_aload_n hx hb dX11_climb_16 rfl (lv_at hl 0 rfl) ?_
    refine lv_aload_n hx hb dX11_climb_17 rfl (lv_at hl 1 rfl) ?_
    refine t_gk hx hb hts hown hK hB mh0 th0 fq_11_3 hb_1 mw_2_210 dX11_climb_18 ?_
    refine t_gr hx hb hts hown hK hG hB mb_1 tb_1 fq_10_0 rfl mw_1_236 dX11_climb_21 (fun b_7 hb_7 mb_7 tb_7 => ?_)
    refine lv_iload_n hx hb dX11_climb_24 rfl (lv_at hl 2 rfl) ?_
    obtain ⟨b_8, hb_8, mb_8, tb_8⟩ := hG b_2 mb_2 0 _ (by rw [tb_2]; rfl)
    refine t_ci (va_runV (As := [.ref b_7, .int p1]) (rest := []) ⟨hx, hb, hml, hown, hts⟩ (cy_X8_canGoUp_8 l D cA L T r hG hLA.1 σ ρ_4 hB.2.1 _ b_2 mb_2 tb_2 b_7 mb_7 tb_7 p1 b_8 hb_8 mb_8 tb_8 (by first | omega | decide) (by first | omega | decide)) (cV hts mv_X8_canGoUp mw_4_139 rfl rfl ⟨Nat.le_of_ble_eq_true rfl, Nat.le_of_ble_eq_true rfl⟩) (pV hB.1 hK hN mb_2 tb_2 (show shp cA 8 _ _ _ = .inr (8, Fs8 _ _ _) from rfl) rfl) rfl rfl hl.1 rfl (lv_room (Nat.le_of_ble_eq_true rfl)) dX11_climb_25 ⟨Nat.le_of_ble_eq_true rfl, Nat.le_of_ble_eq_true rfl⟩) hLA hA hB hS (by decide) (fun x_11 σ_9 ρ_10 H locs hB fσ_9 pσ_9 hS => ?_)
    have qσ_9 := FR.nil fσ_9
    subst qσ_9
    obtain ⟨ox_11, ix_11⟩ := pσ_9
    refine lv_if_ne (tgt := 33) hx hb dX11_climb_28 (by decide) (fun c_12 => ?_) (fun c_12 => ?_)
    · skip
      have uc_12 := i_ne (n := 0) (by decide) c_12
      refine lv_aload_n hx hb dX11_climb_33 rfl (lv_at hl 1 rfl) ?_
      refine t_gr hx hb hts hown hK hG hB mh0 th0 fq_11_5 rfl mw_2_212 dX11_climb_34 (fun b_13 hb_13 mb_13 tb_13 => ?_)
      refine lv_aload_n hx hb dX11_climb_37 rfl (lv_at hl 0 rfl) ?_
      refine t_cv (va_runV (As := [.ref b_2]) (rest := []) ⟨hx, hb, hml, hown, hts⟩ (cy_X5_keep l D cA L T r hG hLA.1 σ ρ_10 hB.2.1 _ b_13 mb_13 tb_13 b_2 mb_2 tb_2) (cV hts mv_X5_keep mw_4_104 rfl rfl ⟨Nat.le_of_ble_eq_true rfl, Nat.le_of_ble_eq_true rfl⟩) (pV hB.1 hK hN mb_13 tb_13 (show shp cA 5 _ _ _ = .inr (5, Fs5 _ _ _) from rfl) rfl) rfl rfl hl.1 rfl (lv_room (Nat.le_of_ble_eq_true rfl)) dX11_climb_38 ⟨Nat.le_of_ble_eq_true rfl, Nat.le_of_ble_eq_true rfl⟩) hLA hA hB hS (by decide) (fun σ_14 ρ_15 H locs hB fσ_14 pσ_14 hS => ?_)
      refine lv_aload_n hx hb dX11_climb_41 rfl (lv_at hl 0 rfl) ?_
      refine lv_aload_n hx hb dX11_climb_42 rfl (lv_at hl 1 rfl) ?_
      refine t_gk hx hb hts hown hK hB mh0 th0 fq_11_3 hb_1 mw_2_210 dX11_climb_43 ?_
      refine t_gk hx hb hts hown hK hB mb_1 tb_1 fq_10_0 hb_7 mw_1_236 dX11_climb_46 ?_
      refine lv_iload_n hx hb dX11_climb_49 rfl (lv_at hl 2 rfl) ?_
      have k_17 := FR.row fσ_14 tb_8 (fun j => by simp)
      refine t_cv (va_runV (As := [.ref b_7, .int p1]) (rest := []) ⟨hx, hb, hml, hown, hts⟩ (cy_X8_goUp_8 l D cA L T r hG hLA.1 σ_14 ρ_15 hB.2.1 _ b_2 mb_2 tb_2 b_7 mb_7 tb_7 p1 b_8 hb_8 mb_8 tb_8 (by first | omega | decide) (by first | omega | decide) (by rw [k_17]; omega)) (cV hts mv_X8_goUp mw_4_144 rfl rfl ⟨Nat.le_of_ble_eq_true rfl, Nat.le_of_ble_eq_true rfl⟩) (pV hB.1 hK hN mb_2 tb_2 (show shp cA 8 _ _ _ = .inr (8, Fs8 _ _ _) from rfl) rfl) rfl rfl hl.1 rfl (lv_room (Nat.le_of_ble_eq_true rfl)) dX11_climb_50 ⟨Nat.le_of_ble_eq_true rfl, Nat.le_of_ble_eq_true rfl⟩) hLA hA hB hS (by decide) (fun σ_18 ρ_19 H locs hB fσ_18 pσ_18 hS => ?_)
      refine lv_aload_n hx hb dX11_climb_53 rfl (lv_at hl 0 rfl) ?_
      refine t_gk hx hb hts hown hK hB mb_2 tb_2 fq_8_0 hb_8 mw_1_84 dX11_climb_54 ?_
      refine lv_iload_n hx hb dX11_climb_57 rfl (lv_at hl 2 rfl) ?_
      refine t_ai hx hb hK hB mb_8 tb_8 ai_45 (fun _ => rfl) (i_in (by omega) (by omega)) dX11_climb_58 (fun x_21 ex_21 lx_21 ux_21 => ?_)
      have cx_21 := congrArg Int32.toInt ex_21
      exact W.iret (v := x_21) hx hb hr (fun t ht hW => ⟨⟨x_21, (σ_18, ρ_19), rfl, ⟨hB.2.1, hB.2.2, trivial⟩, (show TP D cA L T r σ_18 ρ_19 t.heap from by rw [ht]; exact hB.1)⟩, hS.F ht⟩) hS.2.2 dX11_climb_59
    · skip
      have uc_12 := i_eq (n := 0) (by decide) c_12
      refine lv_iconst (v := (-1)) hx hb dX11_climb_31 (by decide) ?_
      exact W.iret (v := (-1)) hx hb hr (fun t ht hW => ⟨⟨(-1), (σ, ρ_10), rfl, ⟨hB.2.1, hB.2.2, trivial⟩, (show TP D cA L T r σ ρ_10 t.heap from by rw [ht]; exact hB.1)⟩, hS.F ht⟩) hS.2.2 dX11_climb_32
theorem dX11_down_0 : decode cX11_down 0 = .ok (.aload_n 0, 1) := by decide +kernel
theorem dX11_down_1 : decode cX11_down 1 = .ok (.getfield 32, 3) := by decide +kernel
theorem dX11_down_4 : decode cX11_down 4 = .ok (.getfield 121, 3) := by decide +kernel
theorem dX11_down_7 : decode cX11_down 7 = .ok (.astore_n 2, 1) := by decide +kernel
theorem dX11_down_8 : decode cX11_down 8 = .ok (.aload_n 0, 1) := by decide +kernel
theorem dX11_down_9 : decode cX11_down 9 = .ok (.iload_n 1, 1) := by decide +kernel
theorem dX11_down_10 : decode cX11_down 10 = .ok (.invokevirtual 117, 3) := by decide +kernel
theorem dX11_down_13 : decode cX11_down 13 = .ok (.ifCond .eq 12, 3) := by decide +kernel
theorem dX11_down_25 : decode cX11_down 25 = .ok (.iconst (-1), 1) := by decide +kernel
theorem dX11_down_26 : decode cX11_down 26 = .ok (.ireturn, 1) := by decide +kernel
theorem dX11_down_16 : decode cX11_down 16 = .ok (.aload_n 2, 1) := by decide +kernel
theorem dX11_down_17 : decode cX11_down 17 = .ok (.getfield 125, 3) := by decide +kernel
theorem dX11_down_20 : decode cX11_down 20 = .ok (.iload_n 1, 1) := by decide +kernel
theorem dX11_down_21 : decode cX11_down 21 = .ok (.iaload, 1) := by decide +kernel
theorem dX11_down_22 : decode cX11_down 22 = .ok (.ifCond .gt 5, 3) := by decide +kernel
theorem dX11_down_27 : decode cX11_down 27 = .ok (.aload_n 0, 1) := by decide +kernel
theorem dX11_down_28 : decode cX11_down 28 = .ok (.getfield 43, 3) := by decide +kernel
theorem dX11_down_31 : decode cX11_down 31 = .ok (.aload_n 2, 1) := by decide +kernel
theorem dX11_down_32 : decode cX11_down 32 = .ok (.invokevirtual 188, 3) := by decide +kernel
theorem dX11_down_35 : decode cX11_down 35 = .ok (.aload_n 2, 1) := by decide +kernel
theorem dX11_down_36 : decode cX11_down 36 = .ok (.getfield 125, 3) := by decide +kernel
theorem dX11_down_39 : decode cX11_down 39 = .ok (.iload_n 1, 1) := by decide +kernel
theorem dX11_down_40 : decode cX11_down 40 = .ok (.dup2, 1) := by decide +kernel
theorem dX11_down_41 : decode cX11_down 41 = .ok (.iaload, 1) := by decide +kernel
theorem dX11_down_42 : decode cX11_down 42 = .ok (.iconst 1, 1) := by decide +kernel
theorem dX11_down_43 : decode cX11_down 43 = .ok (.isub, 1) := by decide +kernel
theorem dX11_down_44 : decode cX11_down 44 = .ok (.iastore, 1) := by decide +kernel
theorem dX11_down_45 : decode cX11_down 45 = .ok (.aload_n 2, 1) := by decide +kernel
theorem dX11_down_46 : decode cX11_down 46 = .ok (.getfield 125, 3) := by decide +kernel
theorem dX11_down_49 : decode cX11_down 49 = .ok (.iload_n 1, 1) := by decide +kernel
theorem dX11_down_50 : decode cX11_down 50 = .ok (.iaload, 1) := by decide +kernel
theorem dX11_down_51 : decode cX11_down 51 = .ok (.ireturn, 1) := by decide +kernel
set_option maxHeartbeats 4000000 in
set_option maxRecDepth 100000 in
theorem cy_X11_down (l : Launch) (D : va_G) (cA : Nat → ClassId) (L : List Nat) (T : Nat → Nat) (r : Rg) (hG : GR L T r) (hL : L.Nodup) (σ : Sg) (ρ : Lg) (hW : WT L ry T σ) (sz : Nat) (h0 : Nat) (mh0 : h0 ∈ L) (th0 : T h0 = 11) (p1 : Int32) : Met l yX11_down (.code yX11_down cX11_down 3 (some .int) :: wsA) ({ frames := 3, cells := 0, slots := 0, locals := 142 }) (PR D cA L T r σ ρ sz [.ref h0, .int p1]) (QI D cA L T r ry [(5, 1), (5, 2), (45, 1000), (102, 6), (102, 7), (119, 1000), (120, 1000), (121, 1000), (122, 1000), (123, 1000), (124, 1000)] σ sz (fun x σ1 => True)) 0 0 (dm L sz) := by
  refine Met.ofW (cc := cX11_down) (maxL := 3) (ret := (some .int)) (by decide) rfl ?_
  intro p e s m args below meth c s₁ B hml hv
  obtain ⟨rfl, hsz, hP, hK, hN⟩ := hv
  have hx := B.exec
  have hb := B.bytes
  have hr := B.returns
  have hts : ∀ w ∈ wsA, w.before _ s = true := fun w h => atoms_spec (ws := .code yX11_down cX11_down 3 (some .int) :: wsA) B.pre w (List.mem_cons_of_mem _ h)
  have hown : s.vm.findClass RX11 = some m.cls := findClass_of_methodNamed B.named
  subst hsz
  have hLA : LA (dm L s.heap.size) L := ⟨hL, fun a h => Or.inl h⟩
  have hA : ∀ q : Nat, s.heap.size ≤ q → dm L s.heap.size q := fun q h => Or.inr h
  have hS : va_S (dm L s.heap.size) s.heap s.heap [] := va_S.rf
  have hB : TS D cA L T r ry [(5, 1), (5, 2), (45, 1000), (102, 6), (102, 7), (119, 1000), (120, 1000), (121, 1000), (122, 1000), (123, 1000), (124, 1000)] σ σ ρ s.heap := ⟨hP, hW, FR.rf⟩
  have hl := lv_entry ([.ref h0, .int p1]) (n := 3) (Nat.le_of_ble_eq_true rfl)
  rw [lg_entry_eq]
  generalize (lg_sl ([.ref h0, .int p1]) ++ List.replicate (3 - (lg_sl ([.ref h0, .int p1])).length) Slot.unset).toArray = ls at hl ⊢
  have hl : lv_has ls 3 [(0, .ref h0), (1, .int p1)] := hl
  refine lv_aload_n hx hb dX11_down_0 rfl (lv_at hl 0 rfl) ?_
  refine t_gr hx hb hts hown hK hG hB mh0 th0 fq_11_3 rfl mw_2_210 dX11_down_1 (fun b_1 hb_1 mb_1 tb_1 => ?_)
  refine t_gr hx hb hts hown hK hG hB mb_1 tb_1 fq_10_1 rfl mw_1_239 dX11_down_4 (fun b_2 hb_2 mb_2 tb_2 => ?_)
  refine lv_astore_n (lv' := [(2, .ref b_2), (0, .ref h0), (1, .int p1)]) hx hb dX11_down_7 rfl hl (by decide) rfl (fun ls hl => ?_)
  refine lv_aload_n hx hb dX11_down_8 rfl (lv_at hl 1 rfl) ?_
  refine lv_iload_n hx hb dX11_down_9 rfl (lv_at hl 2 rfl) ?_
  refine t_ci (va_runV (As := [.int p1]) (rest := []) ⟨hx, hb, hml, hown, hts⟩ (cy_X11_isPilgrim l D cA L T r hG hLA.1 σ ρ hB.2.1 _ h0 mh0 th0 p1) (cV hts mv_X11_isPilgrim mw_4_70 rfl rfl ⟨Nat.le_of_ble_eq_true rfl, Nat.le_of_ble_eq_true rfl⟩) (pV hB.1 hK hN mh0 th0 (show shp cA 11 _ _ _ = .inr (11, Fs11 _ _ _) from rfl) rfl) rfl rfl hl.1 rfl (lv_room (Nat.le_of_ble_eq_true rfl)) dX11_down_10 ⟨Nat.le_of_ble_eq_true rfl, Nat.le_of_ble_eq_true rfl⟩) hLA hA hB hS (by decide) (fun x_5 σ_3 ρ_4 H locs hB fσ_3 pσ_3 hS => ?_)
  have qσ_3 := FR.nil fσ_3
  subst qσ_3
  obtain ⟨ox_5, ix_5⟩ := pσ_3
  refine lv_if_eq (tgt := 25) hx hb dX11_down_13 (by decide) (fun c_6 => ?_) (fun c_6 => ?_)
  · skip
    have uc_6 := i_eq (n := 0) (by decide) c_6
    refine lv_iconst (v := (-1)) hx hb dX11_down_25 (by decide) ?_
    exact W.iret (v := (-1)) hx hb hr (fun t ht hW => ⟨⟨(-1), (σ, ρ_4), rfl, ⟨hB.2.1, hB.2.2, trivial⟩, (show TP D cA L T r σ ρ_4 t.heap from by rw [ht]; exact hB.1)⟩, hS.F ht⟩) hS.2.2 dX11_down_26
  · skip
    have uc_6 := i_ne (n := 0) (by decide) c_6
    refine lv_aload_n hx hb dX11_down_16 rfl (lv_at hl 0 rfl) ?_
    refine t_gr hx hb hts hown hK hG hB mb_2 tb_2 fq_8_0 rfl mw_1_84 dX11_down_17 (fun b_7 hb_7 mb_7 tb_7 => ?_)
    refine lv_iload_n hx hb dX11_down_20 rfl (lv_at hl 2 rfl) ?_
    refine t_ai hx hb hK hB mb_7 tb_7 ai_45 (fun _ => rfl) (i_in (by omega) (by omega)) dX11_down_21 (fun x_8 ex_8 lx_8 ux_8 => ?_)
    have cx_8 := congrArg Int32.toInt ex_8
    refine lv_if_gt (tgt := 27) hx hb dX11_down_22 (by decide) (fun c_9 => ?_) (fun c_9 => ?_)
    · skip
      have uc_9 := i_gt (n := 0) (by decide) c_9
      refine lv_aload_n hx hb dX11_down_27 rfl (lv_at hl 1 rfl) ?_
      refine t_gr hx hb hts hown hK hG hB mh0 th0 fq_11_5 rfl mw_2_212 dX11_down_28 (fun b_10 hb_10 mb_10 tb_10 => ?_)
      refine lv_aload_n hx hb dX11_down_31 rfl (lv_at hl 0 rfl) ?_
      refine t_cv (va_runV (As := [.ref b_2]) (rest := []) ⟨hx, hb, hml, hown, hts⟩ (cy_X5_keep l D cA L T r hG hLA.1 σ ρ_4 hB.2.1 _ b_10 mb_10 tb_10 b_2 mb_2 tb_2) (cV hts mv_X5_keep mw_4_104 rfl rfl ⟨Nat.le_of_ble_eq_true rfl, Nat.le_of_ble_eq_true rfl⟩) (pV hB.1 hK hN mb_10 tb_10 (show shp cA 5 _ _ _ = .inr (5, Fs5 _ _ _) from rfl) rfl) rfl rfl hl.1 rfl (lv_room (Nat.le_of_ble_eq_true rfl)) dX11_down_32 ⟨Nat.le_of_ble_eq_true rfl, Nat.le_of_ble_eq_true rfl⟩) hLA hA hB hS (by decide) (fun σ_11 ρ_12 H locs hB fσ_11 pσ_11 hS => ?_)
      refine lv_aload_n hx hb dX11_down_35 rfl (lv_at hl 0 rfl) ?_
      refine t_gk hx hb hts hown hK hB mb_2 tb_2 fq_8_0 hb_7 mw_1_84 dX11_down_36 ?_
      refine lv_iload_n hx hb dX11_down_39 rfl (lv_at hl 2 rfl) ?_
      refine lv_dup2_11 hx hb dX11_down_40 rfl rfl ?_
      have k_14 : σ_11 b_7 p1.toNatClampNeg = x_8 := (FR.at fσ_11 tb_7 (by simp)).trans ex_8.symm
      refine t_ai hx hb hK hB mb_7 tb_7 ai_45 (fun _ => rfl) (i_in (by omega) (by omega)) dX11_down_41 (fun x_15 ex_15 lx_15 ux_15 => ?_)
      have qx_15 : x_15 = x_8 := ex_15.trans k_14
      have qx_15 := qx_15.symm
      subst qx_15
      refine lv_iconst (v := 1) hx hb dX11_down_42 (by decide) ?_
      refine lv_isub hx hb dX11_down_43 ?_
      refine lv_topi (fun x_16 ex_16 => ?_)
      have vx_16 := b_sub (rfl : x_8.toInt = _) (by decide : (1 : Int32).toInt = 1) ex_16 (by omega) (by omega)
      refine t_si hx hb hK hLA hB hS mb_7 tb_7 ai_45 (i_in (by omega) (by omega)) (by show 0 ≤ _; (first | omega | (subst_vars; omega))) (by show _ ≤ 8; (first | omega | (subst_vars; omega))) (Or.inr (by decide)) dX11_down_44 (fun H locs σ_17 eσ_17 hB hS => ?_)
      have k_18 : σ_17 b_7 p1.toNatClampNeg = x_16 := by rw [eσ_17]; exact up2_same _ _ _ _
      refine lv_aload_n hx hb dX11_down_45 rfl (lv_at hl 0 rfl) ?_
      refine t_gk hx hb hts hown hK hB mb_2 tb_2 fq_8_0 hb_7 mw_1_84 dX11_down_46 ?_
      refine lv_iload_n hx hb dX11_down_49 rfl (lv_at hl 2 rfl) ?_
      refine t_ai hx hb hK hB mb_7 tb_7 ai_45 (fun _ => rfl) (i_in (by omega) (by omega)) dX11_down_50 (fun x_19 ex_19 lx_19 ux_19 => ?_)
      have qx_19 : x_19 = x_16 := ex_19.trans k_18
      have qx_19 := qx_19.symm
      subst qx_19
      exact W.iret (v := x_16) hx hb hr (fun t ht hW => ⟨⟨x_16, (σ_17, ρ_12), rfl, ⟨hB.2.1, hB.2.2, trivial⟩, (show TP D cA L T r σ_17 ρ_12 t.heap from by rw [ht]; exact hB.1)⟩, hS.F ht⟩) hS.2.2 dX11_down_51
    · skip
      have uc_9 := i_ngt (n := 0) (by decide) c_9
      refine lv_iconst (v := (-1)) hx hb dX11_down_25 (by decide) ?_
      exact W.iret (v := (-1)) hx hb hr (fun t ht hW => ⟨⟨(-1), (σ, ρ_4), rfl, ⟨hB.2.1, hB.2.2, trivial⟩, (show TP D cA L T r σ ρ_4 t.heap from by rw [ht]; exact hB.1)⟩, hS.F ht⟩) hS.2.2 dX11_down_26
theorem mw_4_158 : (.instanceMethod yX8_canPick : Cond) ∈ wsA := wsA_t (List.mem_append_right _ (List.mem_append_right _ (List.mem_append_right _ (List.mem_append_left _ (List.mem_of_getElem? (l := tables_1_4) (i := 158) rfl))))) rfl
theorem mw_4_159 : (.selects RX8 yX8_canPick yX8_canPick : Cond) ∈ wsA := wsA_t (List.mem_append_right _ (List.mem_append_right _ (List.mem_append_right _ (List.mem_append_left _ (List.mem_of_getElem? (l := tables_1_4) (i := 159) rfl))))) rfl
theorem mw_4_160 : (.code yX8_canPick cX8_canPick 5 (some .boolean) : Cond) ∈ wsA := wsA_t (List.mem_append_right _ (List.mem_append_right _ (List.mem_append_right _ (List.mem_append_left _ (List.mem_of_getElem? (l := tables_1_4) (i := 160) rfl))))) rfl
theorem mw_4_157 : (.methodLink RX11 208 yX8_canPick : Cond) ∈ wsA := wsA_t (List.mem_append_right _ (List.mem_append_right _ (List.mem_append_right _ (List.mem_append_left _ (List.mem_of_getElem? (l := tables_1_4) (i := 157) rfl))))) rfl
theorem mw_4_167 : (.instanceMethod yX8_pick : Cond) ∈ wsA := wsA_t (List.mem_append_right _ (List.mem_append_right _ (List.mem_append_right _ (List.mem_append_left _ (List.mem_of_getElem? (l := tables_1_4) (i := 167) rfl))))) rfl
theorem mw_4_168 : (.selects RX8 yX8_pick yX8_pick : Cond) ∈ wsA := wsA_t (List.mem_append_right _ (List.mem_append_right _ (List.mem_append_right _ (List.mem_append_left _ (List.mem_of_getElem? (l := tables_1_4) (i := 168) rfl))))) rfl
theorem mw_4_169 : (.code yX8_pick cX8_pick 3 none : Cond) ∈ wsA := wsA_t (List.mem_append_right _ (List.mem_append_right _ (List.mem_append_right _ (List.mem_append_left _ (List.mem_of_getElem? (l := tables_1_4) (i := 169) rfl))))) rfl
theorem mw_4_166 : (.methodLink RX11 212 yX8_pick : Cond) ∈ wsA := wsA_t (List.mem_append_right _ (List.mem_append_right _ (List.mem_append_right _ (List.mem_append_left _ (List.mem_of_getElem? (l := tables_1_4) (i := 166) rfl))))) rfl
theorem dX11_take_0 : decode cX11_take 0 = .ok (.aload_n 0, 1) := by decide +kernel
theorem dX11_take_1 : decode cX11_take 1 = .ok (.getfield 32, 3) := by decide +kernel
theorem dX11_take_4 : decode cX11_take 4 = .ok (.getfield 121, 3) := by decide +kernel
theorem dX11_take_7 : decode cX11_take 7 = .ok (.astore_n 3, 1) := by decide +kernel
theorem dX11_take_8 : decode cX11_take 8 = .ok (.aload_n 0, 1) := by decide +kernel
theorem dX11_take_9 : decode cX11_take 9 = .ok (.iload_n 1, 1) := by decide +kernel
theorem dX11_take_10 : decode cX11_take 10 = .ok (.invokevirtual 117, 3) := by decide +kernel
theorem dX11_take_13 : decode cX11_take 13 = .ok (.ifCond .eq 27, 3) := by decide +kernel
theorem dX11_take_40 : decode cX11_take 40 = .ok (.iconst (-1), 1) := by decide +kernel
theorem dX11_take_41 : decode cX11_take 41 = .ok (.ireturn, 1) := by decide +kernel
theorem dX11_take_16 : decode cX11_take 16 = .ok (.aload_n 0, 1) := by decide +kernel
theorem dX11_take_17 : decode cX11_take 17 = .ok (.iload_n 2, 1) := by decide +kernel
theorem dX11_take_18 : decode cX11_take 18 = .ok (.invokevirtual 166, 3) := by decide +kernel
theorem dX11_take_21 : decode cX11_take 21 = .ok (.ifCond .eq 19, 3) := by decide +kernel
theorem dX11_take_24 : decode cX11_take 24 = .ok (.aload_n 3, 1) := by decide +kernel
theorem dX11_take_25 : decode cX11_take 25 = .ok (.aload_n 0, 1) := by decide +kernel
theorem dX11_take_26 : decode cX11_take 26 = .ok (.getfield 32, 3) := by decide +kernel
theorem dX11_take_29 : decode cX11_take 29 = .ok (.getfield 102, 3) := by decide +kernel
theorem dX11_take_32 : decode cX11_take 32 = .ok (.iload_n 1, 1) := by decide +kernel
theorem dX11_take_33 : decode cX11_take 33 = .ok (.iload_n 2, 1) := by decide +kernel
theorem dX11_take_34 : decode cX11_take 34 = .ok (.invokevirtual 208, 3) := by decide +kernel
theorem dX11_take_37 : decode cX11_take 37 = .ok (.ifCond .ne 5, 3) := by decide +kernel
theorem dX11_take_42 : decode cX11_take 42 = .ok (.aload_n 0, 1) := by decide +kernel
theorem dX11_take_43 : decode cX11_take 43 = .ok (.getfield 43, 3) := by decide +kernel
theorem dX11_take_46 : decode cX11_take 46 = .ok (.aload_n 3, 1) := by decide +kernel
theorem dX11_take_47 : decode cX11_take 47 = .ok (.invokevirtual 188, 3) := by decide +kernel
theorem dX11_take_50 : decode cX11_take 50 = .ok (.aload_n 3, 1) := by decide +kernel
theorem dX11_take_51 : decode cX11_take 51 = .ok (.iload_n 1, 1) := by decide +kernel
theorem dX11_take_52 : decode cX11_take 52 = .ok (.iload_n 2, 1) := by decide +kernel
theorem dX11_take_53 : decode cX11_take 53 = .ok (.invokevirtual 212, 3) := by decide +kernel
theorem dX11_take_56 : decode cX11_take 56 = .ok (.aload_n 3, 1) := by decide +kernel
theorem dX11_take_57 : decode cX11_take 57 = .ok (.getfield 144, 3) := by decide +kernel
theorem dX11_take_60 : decode cX11_take 60 = .ok (.iload_n 1, 1) := by decide +kernel
theorem dX11_take_61 : decode cX11_take 61 = .ok (.iconst 5, 1) := by decide +kernel
theorem dX11_take_62 : decode cX11_take 62 = .ok (.imul, 1) := by decide +kernel
theorem dX11_take_63 : decode cX11_take 63 = .ok (.iload_n 2, 1) := by decide +kernel
theorem dX11_take_64 : decode cX11_take 64 = .ok (.iadd, 1) := by decide +kernel
theorem dX11_take_65 : decode cX11_take 65 = .ok (.iaload, 1) := by decide +kernel
theorem dX11_take_66 : decode cX11_take 66 = .ok (.ireturn, 1) := by decide +kernel
theorem mv_X8_canPick : MV RX8 yX8_canPick cX8_canPick 5 (some .boolean) 3 := ⟨mw_4_158, mw_4_159, mw_1_5, mw_4_160, ⟨rfl, by decide, by decide, by decide +kernel⟩⟩
theorem mv_X8_pick : MV RX8 yX8_pick cX8_pick 3 none 2 := ⟨mw_4_167, mw_4_168, mw_1_5, mw_4_169, ⟨rfl, by decide, by decide, by decide +kernel⟩⟩
set_option maxHeartbeats 4000000 in
set_option maxRecDepth 100000 in
theorem cy_X11_take (l : Launch) (D : va_G) (cA : Nat → ClassId) (L : List Nat) (T : Nat → Nat) (r : Rg) (hG : GR L T r) (hL : L.Nodup) (σ : Sg) (ρ : Lg) (hW : WT L ry T σ) (sz : Nat) (h0 : Nat) (mh0 : h0 ∈ L) (th0 : T h0 = 11) (p1 : Int32) (p2 : Int32) : Met l yX11_take (.code yX11_take cX11_take 4 (some .int) :: wsA) ({ frames := 3, cells := 0, slots := 0, locals := 142 }) (PR D cA L T r σ ρ sz [.ref h0, .int p1, .int p2]) (QI D cA L T r ry [(5, 1), (5, 2), (48, 1000), (49, 1000), (50, 1000), (102, 6), (102, 7), (119, 1000), (120, 1000), (121, 1000), (122, 1000), (123, 1000), (124, 1000)] σ sz (fun x σ1 => True)) 0 0 (dm L sz) := by
  refine Met.ofW (cc := cX11_take) (maxL := 4) (ret := (some .int)) (by decide) rfl ?_
  intro p e s m args below meth c s₁ B hml hv
  obtain ⟨rfl, hsz, hP, hK, hN⟩ := hv
  have hx := B.exec
  have hb := B.bytes
  have hr := B.returns
  have hts : ∀ w ∈ wsA, w.before _ s = true := fun w h => atoms_spec (ws := .code yX11_take cX11_take 4 (some .int) :: wsA) B.pre w (List.mem_cons_of_mem _ h)
  have hown : s.vm.findClass RX11 = some m.cls := findClass_of_methodNamed B.named
  subst hsz
  have hLA : LA (dm L s.heap.size) L := ⟨hL, fun a h => Or.inl h⟩
  have hA : ∀ q : Nat, s.heap.size ≤ q → dm L s.heap.size q := fun q h => Or.inr h
  have hS : va_S (dm L s.heap.size) s.heap s.heap [] := va_S.rf
  have hB : TS D cA L T r ry [(5, 1), (5, 2), (48, 1000), (49, 1000), (50, 1000), (102, 6), (102, 7), (119, 1000), (120, 1000), (121, 1000), (122, 1000), (123, 1000), (124, 1000)] σ σ ρ s.heap := ⟨hP, hW, FR.rf⟩
  have hl := lv_entry ([.ref h0, .int p1, .int p2]) (n := 4) (Nat.le_of_ble_eq_true rfl)
  rw [lg_entry_eq]
  generalize (lg_sl ([.ref h0, .int p1, .int p2]) ++ List.replicate (4 - (lg_sl ([.ref h0, .int p1, .int p2])).length) Slot.unset).toArray = ls at hl ⊢
  have hl : lv_has ls 4 [(0, .ref h0), (1, .int p1), (2, .int p2)] := hl
  refine lv_aload_n hx hb dX11_take_0 rfl (lv_at hl 0 rfl) ?_
  refine t_gr hx hb hts hown hK hG hB mh0 th0 fq_11_3 rfl mw_2_210 dX11_take_1 (fun b_1 hb_1 mb_1 tb_1 => ?_)
  refine t_gr hx hb hts hown hK hG hB mb_1 tb_1 fq_10_1 rfl mw_1_239 dX11_take_4 (fun b_2 hb_2 mb_2 tb_2 => ?_)
  refine lv_astore_n (lv' := [(3, .ref b_2), (0, .ref h0), (1, .int p1), (2, .int p2)]) hx hb dX11_take_7 rfl hl (by decide) rfl (fun ls hl => ?_)
  refine lv_aload_n hx hb dX11_take_8 rfl (lv_at hl 1 rfl) ?_
  refine lv_iload_n hx hb dX11_take_9 rfl (lv_at hl 2 rfl) ?_
  refine t_ci (va_runV (As := [.int p1]) (rest := []) ⟨hx, hb, hml, hown, hts⟩ (cy_X11_isPilgrim l D cA L T r hG hLA.1 σ ρ hB.2.1 _ h0 mh0 th0 p1) (cV hts mv_X11_isPilgrim mw_4_70 rfl rfl ⟨Nat.le_of_ble_eq_true rfl, Nat.le_of_ble_eq_true rfl⟩) (pV hB.1 hK hN mh0 th0 (show shp cA 11 _ _ _ = .inr (11, Fs11 _ _ _) from rfl) rfl) rfl rfl hl.1 rfl (lv_room (Nat.le_of_ble_eq_true rfl)) dX11_take_10 ⟨Nat.le_of_ble_eq_true rfl, Nat.le_of_ble_eq_true rfl⟩) hLA hA hB hS (by decide) (fun x_5 σ_3 ρ_4 H locs hB fσ_3 pσ_3 hS => ?_)
  have qσ_3 := FR.nil fσ_3
  subst qσ_3
  obtain ⟨ox_5, ix_5⟩ := pσ_3
  refine lv_if_eq (tgt := 40) hx hb dX11_take_13 (by decide) (fun c_6 => ?_) (fun c_6 => ?_)
  · skip
    have uc_6 := i_eq (n := 0) (by decide) c_6
    refine lv_iconst (v := (-1)) hx hb dX11_take_40 (by decide) ?_
    exact W.iret (v := (-1)) hx hb hr (fun t ht hW => ⟨⟨(-1), (σ, ρ_4), rfl, ⟨hB.2.1, hB.2.2, trivial⟩, (show TP D cA L T r σ ρ_4 t.heap from by rw [ht]; exact hB.1)⟩, hS.F ht⟩) hS.2.2 dX11_take_41
  · skip
    have uc_6 := i_ne (n := 0) (by decide) c_6
    refine lv_aload_n hx hb dX11_take_16 rfl (lv_at hl 1 rfl) ?_
    refine lv_iload_n hx hb dX11_take_17 rfl (lv_at hl 3 rfl) ?_
    refine t_ci (va_runV (As := [.int p2]) (rest := []) ⟨hx, hb, hml, hown, hts⟩ (cy_X11_isSort l D cA L T r hG hLA.1 σ ρ_4 hB.2.1 _ h0 mh0 th0 p2) (cV hts mv_X11_isSort mw_4_91 rfl rfl ⟨Nat.le_of_ble_eq_true rfl, Nat.le_of_ble_eq_true rfl⟩) (pV hB.1 hK hN mh0 th0 (show shp cA 11 _ _ _ = .inr (11, Fs11 _ _ _) from rfl) rfl) rfl rfl hl.1 rfl (lv_room (Nat.le_of_ble_eq_true rfl)) dX11_take_18 ⟨Nat.le_of_ble_eq_true rfl, Nat.le_of_ble_eq_true rfl⟩) hLA hA hB hS (by decide) (fun x_9 σ_7 ρ_8 H locs hB fσ_7 pσ_7 hS => ?_)
    have qσ_7 := FR.nil fσ_7
    subst qσ_7
    obtain ⟨ox_9, ix_9⟩ := pσ_7
    refine lv_if_eq (tgt := 40) hx hb dX11_take_21 (by decide) (fun c_10 => ?_) (fun c_10 => ?_)
    · skip
      have uc_10 := i_eq (n := 0) (by decide) c_10
      refine lv_iconst (v := (-1)) hx hb dX11_take_40 (by decide) ?_
      exact W.iret (v := (-1)) hx hb hr (fun t ht hW => ⟨⟨(-1), (σ, ρ_8), rfl, ⟨hB.2.1, hB.2.2, trivial⟩, (show TP D cA L T r σ ρ_8 t.heap from by rw [ht]; exact hB.1)⟩, hS.F ht⟩) hS.2.2 dX11_take_41
    · skip
      have uc_10 := i_ne (n := 0) (by decide) c_10
      refine lv_aload_n hx hb dX11_take_24 rfl (lv_at hl 0 rfl) ?_
      refine lv_aload_n hx hb dX11_take_25 rfl (lv_at hl 1 rfl) ?_
      refine t_gk hx hb hts hown hK hB mh0 th0 fq_11_3 hb_1 mw_2_210 dX11_take_26 ?_
      refine t_gr hx hb hts hown hK hG hB mb_1 tb_1 fq_10_0 rfl mw_1_236 dX11_take_29 (fun b_11 hb_11 mb_11 tb_11 => ?_)
      refine lv_iload_n hx hb dX11_take_32 rfl (lv_at hl 2 rfl) ?_
      refine lv_iload_n hx hb dX11_take_33 rfl (lv_at hl 3 rfl) ?_
      obtain ⟨b_12, hb_12, mb_12, tb_12⟩ := hG b_2 mb_2 0 _ (by rw [tb_2]; rfl)
      obtain ⟨b_13, hb_13, mb_13, tb_13⟩ := hG b_2 mb_2 5 _ (by rw [tb_2]; rfl)
      refine t_ci (va_runV (As := [.ref b_11, .int p1, .int p2]) (rest := []) ⟨hx, hb, hml, hown, hts⟩ (cy_X8_canPick l D cA L T r hG hLA.1 σ ρ_8 hB.2.1 _ b_2 mb_2 tb_2 b_11 mb_11 tb_11 p1 p2 b_12 hb_12 mb_12 tb_12 b_13 hb_13 mb_13 tb_13 (by first | omega | decide) (by first | omega | decide) (by first | omega | decide) (by first | omega | decide)) (cV hts mv_X8_canPick mw_4_157 rfl rfl ⟨Nat.le_of_ble_eq_true rfl, Nat.le_of_ble_eq_true rfl⟩) (pV hB.1 hK hN mb_2 tb_2 (show shp cA 8 _ _ _ = .inr (8, Fs8 _ _ _) from rfl) rfl) rfl rfl hl.1 rfl (lv_room (Nat.le_of_ble_eq_true rfl)) dX11_take_34 ⟨Nat.le_of_ble_eq_true rfl, Nat.le_of_ble_eq_true rfl⟩) hLA hA hB hS (by decide) (fun x_16 σ_14 ρ_15 H locs hB fσ_14 pσ_14 hS => ?_)
      have qσ_14 := FR.nil fσ_14
      subst qσ_14
      obtain ⟨ox_16, ix_16⟩ := pσ_14
      refine lv_if_ne (tgt := 42) hx hb dX11_take_37 (by decide) (fun c_17 => ?_) (fun c_17 => ?_)
      · skip
        have uc_17 := i_ne (n := 0) (by decide) c_17
        refine lv_aload_n hx hb dX11_take_42 rfl (lv_at hl 1 rfl) ?_
        refine t_gr hx hb hts hown hK hG hB mh0 th0 fq_11_5 rfl mw_2_212 dX11_take_43 (fun b_18 hb_18 mb_18 tb_18 => ?_)
        refine lv_aload_n hx hb dX11_take_46 rfl (lv_at hl 0 rfl) ?_
        refine t_cv (va_runV (As := [.ref b_2]) (rest := []) ⟨hx, hb, hml, hown, hts⟩ (cy_X5_keep l D cA L T r hG hLA.1 σ ρ_15 hB.2.1 _ b_18 mb_18 tb_18 b_2 mb_2 tb_2) (cV hts mv_X5_keep mw_4_104 rfl rfl ⟨Nat.le_of_ble_eq_true rfl, Nat.le_of_ble_eq_true rfl⟩) (pV hB.1 hK hN mb_18 tb_18 (show shp cA 5 _ _ _ = .inr (5, Fs5 _ _ _) from rfl) rfl) rfl rfl hl.1 rfl (lv_room (Nat.le_of_ble_eq_true rfl)) dX11_take_47 ⟨Nat.le_of_ble_eq_true rfl, Nat.le_of_ble_eq_true rfl⟩) hLA hA hB hS (by decide) (fun σ_19 ρ_20 H locs hB fσ_19 pσ_19 hS => ?_)
        refine lv_aload_n hx hb dX11_take_50 rfl (lv_at hl 0 rfl) ?_
        refine lv_iload_n hx hb dX11_take_51 rfl (lv_at hl 2 rfl) ?_
        refine lv_iload_n hx hb dX11_take_52 rfl (lv_at hl 3 rfl) ?_
        have k_22 := FR.row fσ_19 tb_12 (fun j => by simp)
        have k_23 := FR.row fσ_19 tb_13 (fun j => by simp)
        have k_24 := FR.row fσ_19 tb_12 (fun j => by simp)
        refine t_cv (va_runV (As := [.int p1, .int p2]) (rest := []) ⟨hx, hb, hml, hown, hts⟩ (cy_X8_pick l D cA L T r hG hLA.1 σ_19 ρ_20 hB.2.1 _ b_2 mb_2 tb_2 p1 p2 b_12 hb_12 mb_12 tb_12 b_13 hb_13 mb_13 tb_13 (by first | omega | decide) (by first | omega | decide) (by first | omega | decide) (by first | omega | decide) (by rw [k_22]; omega) (by rw [k_23, k_24]; omega)) (cV hts mv_X8_pick mw_4_166 rfl rfl ⟨Nat.le_of_ble_eq_true rfl, Nat.le_of_ble_eq_true rfl⟩) (pV hB.1 hK hN mb_2 tb_2 (show shp cA 8 _ _ _ = .inr (8, Fs8 _ _ _) from rfl) rfl) rfl rfl hl.1 rfl (lv_room (Nat.le_of_ble_eq_true rfl)) dX11_take_53 ⟨Nat.le_of_ble_eq_true rfl, Nat.le_of_ble_eq_true rfl⟩) hLA hA hB hS (by decide) (fun σ_25 ρ_26 H locs hB fσ_25 pσ_25 hS => ?_)
        refine lv_aload_n hx hb dX11_take_56 rfl (lv_at hl 0 rfl) ?_
        refine t_gr hx hb hts hown hK hG hB mb_2 tb_2 fq_8_4 rfl mw_1_98 dX11_take_57 (fun b_28 hb_28 mb_28 tb_28 => ?_)
        refine lv_iload_n hx hb dX11_take_60 rfl (lv_at hl 2 rfl) ?_
        refine lv_iconst (v := 5) hx hb dX11_take_61 (by decide) ?_
        refine lv_imul hx hb dX11_take_62 ?_
        refine lv_topi (fun x_29 ex_29 => ?_)
        try have vx_29 := b_mul (rfl : p1.toInt = _) (by decide : (5 : Int32).toInt = 5) ex_29 (by omega) (by omega)
        refine lv_iload_n hx hb dX11_take_63 rfl (lv_at hl 3 rfl) ?_
        refine lv_iadd hx hb dX11_take_64 ?_
        refine lv_topi (fun x_30 ex_30 => ?_)
        try have vx_30 := b_add (rfl : x_29.toInt = _) (rfl : p2.toInt = _) ex_30 (by omega) (by omega)
        refine t_ai hx hb hK hB mb_28 tb_28 ai_49 (fun _ => rfl) (i_in (by omega) (by omega)) dX11_take_65 (fun x_31 ex_31 lx_31 ux_31 => ?_)
        have cx_31 := congrArg Int32.toInt ex_31
        exact W.iret (v := x_31) hx hb hr (fun t ht hW => ⟨⟨x_31, (σ_25, ρ_26), rfl, ⟨hB.2.1, hB.2.2, trivial⟩, (show TP D cA L T r σ_25 ρ_26 t.heap from by rw [ht]; exact hB.1)⟩, hS.F ht⟩) hS.2.2 dX11_take_66
      · skip
        have uc_17 := i_eq (n := 0) (by decide) c_17
        refine lv_iconst (v := (-1)) hx hb dX11_take_40 (by decide) ?_
        exact W.iret (v := (-1)) hx hb hr (fun t ht hW => ⟨⟨(-1), (σ, ρ_15), rfl, ⟨hB.2.1, hB.2.2, trivial⟩, (show TP D cA L T r σ ρ_15 t.heap from by rw [ht]; exact hB.1)⟩, hS.F ht⟩) hS.2.2 dX11_take_41
theorem mw_4_175 : (.instanceMethod yX8_canPay : Cond) ∈ wsA := wsA_t (List.mem_append_right _ (List.mem_append_right _ (List.mem_append_right _ (List.mem_append_left _ (List.mem_of_getElem? (l := tables_1_4) (i := 175) rfl))))) rfl
theorem mw_4_176 : (.selects RX8 yX8_canPay yX8_canPay : Cond) ∈ wsA := wsA_t (List.mem_append_right _ (List.mem_append_right _ (List.mem_append_right _ (List.mem_append_left _ (List.mem_of_getElem? (l := tables_1_4) (i := 176) rfl))))) rfl
theorem mw_4_177 : (.code yX8_canPay cX8_canPay 4 (some .boolean) : Cond) ∈ wsA := wsA_t (List.mem_append_right _ (List.mem_append_right _ (List.mem_append_right _ (List.mem_append_left _ (List.mem_of_getElem? (l := tables_1_4) (i := 177) rfl))))) rfl
theorem mw_4_174 : (.methodLink RX11 216 yX8_canPay : Cond) ∈ wsA := wsA_t (List.mem_append_right _ (List.mem_append_right _ (List.mem_append_right _ (List.mem_append_left _ (List.mem_of_getElem? (l := tables_1_4) (i := 174) rfl))))) rfl
theorem dX11_buy_0 : decode cX11_buy 0 = .ok (.aload_n 0, 1) := by decide +kernel
theorem dX11_buy_1 : decode cX11_buy 1 = .ok (.getfield 32, 3) := by decide +kernel
theorem dX11_buy_4 : decode cX11_buy 4 = .ok (.getfield 121, 3) := by decide +kernel
theorem dX11_buy_7 : decode cX11_buy 7 = .ok (.astore_n 3, 1) := by decide +kernel
theorem dX11_buy_8 : decode cX11_buy 8 = .ok (.aload_n 0, 1) := by decide +kernel
theorem dX11_buy_9 : decode cX11_buy 9 = .ok (.iload_n 1, 1) := by decide +kernel
theorem dX11_buy_10 : decode cX11_buy 10 = .ok (.invokevirtual 117, 3) := by decide +kernel
theorem dX11_buy_13 : decode cX11_buy 13 = .ok (.ifCond .eq 27, 3) := by decide +kernel
theorem dX11_buy_40 : decode cX11_buy 40 = .ok (.iconst (-1), 1) := by decide +kernel
theorem dX11_buy_41 : decode cX11_buy 41 = .ok (.ireturn, 1) := by decide +kernel
theorem dX11_buy_16 : decode cX11_buy 16 = .ok (.aload_n 0, 1) := by decide +kernel
theorem dX11_buy_17 : decode cX11_buy 17 = .ok (.iload_n 2, 1) := by decide +kernel
theorem dX11_buy_18 : decode cX11_buy 18 = .ok (.invokevirtual 166, 3) := by decide +kernel
theorem dX11_buy_21 : decode cX11_buy 21 = .ok (.ifCond .eq 19, 3) := by decide +kernel
theorem dX11_buy_24 : decode cX11_buy 24 = .ok (.aload_n 3, 1) := by decide +kernel
theorem dX11_buy_25 : decode cX11_buy 25 = .ok (.aload_n 0, 1) := by decide +kernel
theorem dX11_buy_26 : decode cX11_buy 26 = .ok (.getfield 32, 3) := by decide +kernel
theorem dX11_buy_29 : decode cX11_buy 29 = .ok (.getfield 102, 3) := by decide +kernel
theorem dX11_buy_32 : decode cX11_buy 32 = .ok (.iload_n 1, 1) := by decide +kernel
theorem dX11_buy_33 : decode cX11_buy 33 = .ok (.iload_n 2, 1) := by decide +kernel
theorem dX11_buy_34 : decode cX11_buy 34 = .ok (.invokevirtual 216, 3) := by decide +kernel
theorem dX11_buy_37 : decode cX11_buy 37 = .ok (.ifCond .ne 5, 3) := by decide +kernel
theorem dX11_buy_42 : decode cX11_buy 42 = .ok (.aload_n 0, 1) := by decide +kernel
theorem dX11_buy_43 : decode cX11_buy 43 = .ok (.getfield 43, 3) := by decide +kernel
theorem dX11_buy_46 : decode cX11_buy 46 = .ok (.aload_n 3, 1) := by decide +kernel
theorem dX11_buy_47 : decode cX11_buy 47 = .ok (.invokevirtual 188, 3) := by decide +kernel
theorem dX11_buy_50 : decode cX11_buy 50 = .ok (.aload_n 3, 1) := by decide +kernel
theorem dX11_buy_51 : decode cX11_buy 51 = .ok (.getfield 131, 3) := by decide +kernel
theorem dX11_buy_54 : decode cX11_buy 54 = .ok (.iload_n 1, 1) := by decide +kernel
theorem dX11_buy_55 : decode cX11_buy 55 = .ok (.dup2, 1) := by decide +kernel
theorem dX11_buy_56 : decode cX11_buy 56 = .ok (.iaload, 1) := by decide +kernel
theorem dX11_buy_57 : decode cX11_buy 57 = .ok (.aload_n 0, 1) := by decide +kernel
theorem dX11_buy_58 : decode cX11_buy 58 = .ok (.getfield 32, 3) := by decide +kernel
theorem dX11_buy_61 : decode cX11_buy 61 = .ok (.getfield 102, 3) := by decide +kernel
theorem dX11_buy_64 : decode cX11_buy 64 = .ok (.getfield 175, 3) := by decide +kernel
theorem dX11_buy_67 : decode cX11_buy 67 = .ok (.iload_n 2, 1) := by decide +kernel
theorem dX11_buy_68 : decode cX11_buy 68 = .ok (.iaload, 1) := by decide +kernel
theorem dX11_buy_69 : decode cX11_buy 69 = .ok (.isub, 1) := by decide +kernel
theorem dX11_buy_70 : decode cX11_buy 70 = .ok (.iastore, 1) := by decide +kernel
theorem dX11_buy_71 : decode cX11_buy 71 = .ok (.aload_n 3, 1) := by decide +kernel
theorem dX11_buy_72 : decode cX11_buy 72 = .ok (.getfield 144, 3) := by decide +kernel
theorem dX11_buy_75 : decode cX11_buy 75 = .ok (.iload_n 1, 1) := by decide +kernel
theorem dX11_buy_76 : decode cX11_buy 76 = .ok (.iconst 5, 1) := by decide +kernel
theorem dX11_buy_77 : decode cX11_buy 77 = .ok (.imul, 1) := by decide +kernel
theorem dX11_buy_78 : decode cX11_buy 78 = .ok (.iload_n 2, 1) := by decide +kernel
theorem dX11_buy_79 : decode cX11_buy 79 = .ok (.iadd, 1) := by decide +kernel
theorem dX11_buy_80 : decode cX11_buy 80 = .ok (.dup2, 1) := by decide +kernel
theorem dX11_buy_81 : decode cX11_buy 81 = .ok (.iaload, 1) := by decide +kernel
theorem dX11_buy_82 : decode cX11_buy 82 = .ok (.iconst 1, 1) := by decide +kernel
theorem dX11_buy_83 : decode cX11_buy 83 = .ok (.iadd, 1) := by decide +kernel
theorem dX11_buy_84 : decode cX11_buy 84 = .ok (.iastore, 1) := by decide +kernel
theorem dX11_buy_85 : decode cX11_buy 85 = .ok (.aload_n 3, 1) := by decide +kernel
theorem dX11_buy_86 : decode cX11_buy 86 = .ok (.getfield 131, 3) := by decide +kernel
theorem dX11_buy_89 : decode cX11_buy 89 = .ok (.iload_n 1, 1) := by decide +kernel
theorem dX11_buy_90 : decode cX11_buy 90 = .ok (.iaload, 1) := by decide +kernel
theorem dX11_buy_91 : decode cX11_buy 91 = .ok (.ireturn, 1) := by decide +kernel
theorem mv_X8_canPay : MV RX8 yX8_canPay cX8_canPay 4 (some .boolean) 3 := ⟨mw_4_175, mw_4_176, mw_1_5, mw_4_177, ⟨rfl, by decide, by decide, by decide +kernel⟩⟩
set_option maxHeartbeats 4000000 in
set_option maxRecDepth 100000 in
theorem cy_X11_buy (l : Launch) (D : va_G) (cA : Nat → ClassId) (L : List Nat) (T : Nat → Nat) (r : Rg) (hG : GR L T r) (hL : L.Nodup) (σ : Sg) (ρ : Lg) (hW : WT L ry T σ) (sz : Nat) (h0 : Nat) (mh0 : h0 ∈ L) (th0 : T h0 = 11) (p1 : Int32) (p2 : Int32) : Met l yX11_buy (.code yX11_buy cX11_buy 4 (some .int) :: wsA) ({ frames := 3, cells := 0, slots := 0, locals := 142 }) (PR D cA L T r σ ρ sz [.ref h0, .int p1, .int p2]) (QI D cA L T r ry [(5, 1), (5, 2), (46, 1000), (49, 1000), (102, 6), (102, 7), (119, 1000), (120, 1000), (121, 1000), (122, 1000), (123, 1000), (124, 1000)] σ sz (fun x σ1 => True)) 0 0 (dm L sz) := by
  refine Met.ofW (cc := cX11_buy) (maxL := 4) (ret := (some .int)) (by decide) rfl ?_
  intro p e s m args below meth c s₁ B hml hv
  obtain ⟨rfl, hsz, hP, hK, hN⟩ := hv
  have hx := B.exec
  have hb := B.bytes
  have hr := B.returns
  have hts : ∀ w ∈ wsA, w.before _ s = true := fun w h => atoms_spec (ws := .code yX11_buy cX11_buy 4 (some .int) :: wsA) B.pre w (List.mem_cons_of_mem _ h)
  have hown : s.vm.findClass RX11 = some m.cls := findClass_of_methodNamed B.named
  subst hsz
  have hLA : LA (dm L s.heap.size) L := ⟨hL, fun a h => Or.inl h⟩
  have hA : ∀ q : Nat, s.heap.size ≤ q → dm L s.heap.size q := fun q h => Or.inr h
  have hS : va_S (dm L s.heap.size) s.heap s.heap [] := va_S.rf
  have hB : TS D cA L T r ry [(5, 1), (5, 2), (46, 1000), (49, 1000), (102, 6), (102, 7), (119, 1000), (120, 1000), (121, 1000), (122, 1000), (123, 1000), (124, 1000)] σ σ ρ s.heap := ⟨hP, hW, FR.rf⟩
  have hl := lv_entry ([.ref h0, .int p1, .int p2]) (n := 4) (Nat.le_of_ble_eq_true rfl)
  rw [lg_entry_eq]
  generalize (lg_sl ([.ref h0, .int p1, .int p2]) ++ List.replicate (4 - (lg_sl ([.ref h0, .int p1, .int p2])).length) Slot.unset).toArray = ls at hl ⊢
  have hl : lv_has ls 4 [(0, .ref h0), (1, .int p1), (2, .int p2)] := hl
  refine lv_aload_n hx hb dX11_buy_0 rfl (lv_at hl 0 rfl) ?_
  refine t_gr hx hb hts hown hK hG hB mh0 th0 fq_11_3 rfl mw_2_210 dX11_buy_1 (fun b_1 hb_1 mb_1 tb_1 => ?_)
  refine t_gr hx hb hts hown hK hG hB mb_1 tb_1 fq_10_1 rfl mw_1_239 dX11_buy_4 (fun b_2 hb_2 mb_2 tb_2 => ?_)
  refine lv_astore_n (lv' := [(3, .ref b_2), (0, .ref h0), (1, .int p1), (2, .int p2)]) hx hb dX11_buy_7 rfl hl (by decide) rfl (fun ls hl => ?_)
  refine lv_aload_n hx hb dX11_buy_8 rfl (lv_at hl 1 rfl) ?_
  refine lv_iload_n hx hb dX11_buy_9 rfl (lv_at hl 2 rfl) ?_
  refine t_ci (va_runV (As := [.int p1]) (rest := []) ⟨hx, hb, hml, hown, hts⟩ (cy_X11_isPilgrim l D cA L T r hG hLA.1 σ ρ hB.2.1 _ h0 mh0 th0 p1) (cV hts mv_X11_isPilgrim mw_4_70 rfl rfl ⟨Nat.le_of_ble_eq_true rfl, Nat.le_of_ble_eq_true rfl⟩) (pV hB.1 hK hN mh0 th0 (show shp cA 11 _ _ _ = .inr (11, Fs11 _ _ _) from rfl) rfl) rfl rfl hl.1 rfl (lv_room (Nat.le_of_ble_eq_true rfl)) dX11_buy_10 ⟨Nat.le_of_ble_eq_true rfl, Nat.le_of_ble_eq_true rfl⟩) hLA hA hB hS (by decide) (fun x_5 σ_3 ρ_4 H locs hB fσ_3 pσ_3 hS => ?_)
  have qσ_3 := FR.nil fσ_3
  subst qσ_3
  obtain ⟨ox_5, ix_5⟩ := pσ_3
  refine lv_if_eq (tgt := 40) hx hb dX11_buy_13 (by decide) (fun c_6 => ?_) (fun c_6 => ?_)
  · skip
    have uc_6 := i_eq (n := 0) (by decide) c_6
    refine lv_iconst (v := (-1)) hx hb dX11_buy_40 (by decide) ?_
    exact W.iret (v := (-1)) hx hb hr (fun t ht hW => ⟨⟨(-1), (σ, ρ_4), rfl, ⟨hB.2.1, hB.2.2, trivial⟩, (show TP D cA L T r σ ρ_4 t.heap from by rw [ht]; exact hB.1)⟩, hS.F ht⟩) hS.2.2 dX11_buy_41
  · skip
    have uc_6 := i_ne (n := 0) (by decide) c_6
    refine lv_aload_n hx hb dX11_buy_16 rfl (lv_at hl 1 rfl) ?_
    refine lv_iload_n hx hb dX11_buy_17 rfl (lv_at hl 3 rfl) ?_
    refine t_ci (va_runV (As := [.int p2]) (rest := []) ⟨hx, hb, hml, hown, hts⟩ (cy_X11_isSort l D cA L T r hG hLA.1 σ ρ_4 hB.2.1 _ h0 mh0 th0 p2) (cV hts mv_X11_isSort mw_4_91 rfl rfl ⟨Nat.le_of_ble_eq_true rfl, Nat.le_of_ble_eq_true rfl⟩) (pV hB.1 hK hN mh0 th0 (show shp cA 11 _ _ _ = .inr (11, Fs11 _ _ _) from rfl) rfl) rfl rfl hl.1 rfl (lv_room (Nat.le_of_ble_eq_true rfl)) dX11_buy_18 ⟨Nat.le_of_ble_eq_true rfl, Nat.le_of_ble_eq_true rfl⟩) hLA hA hB hS (by decide) (fun x_9 σ_7 ρ_8 H locs hB fσ_7 pσ_7 hS => ?_)
    have qσ_7 := FR.nil fσ_7
    subst qσ_7
    obtain ⟨ox_9, ix_9⟩ := pσ_7
    refine lv_if_eq (tgt := 40) hx hb dX11_buy_21 (by decide) (fun c_10 => ?_) (fun c_10 => ?_)
    · skip
      have uc_10 := i_eq (n := 0) (by decide) c_10
      refine lv_iconst (v := (-1)) hx hb dX11_buy_40 (by decide) ?_
      exact W.iret (v := (-1)) hx hb hr (fun t ht hW => ⟨⟨(-1), (σ, ρ_8), rfl, ⟨hB.2.1, hB.2.2, trivial⟩, (show TP D cA L T r σ ρ_8 t.heap from by rw [ht]; exact hB.1)⟩, hS.F ht⟩) hS.2.2 dX11_buy_41
    · skip
      have uc_10 := i_ne (n := 0) (by decide) c_10
      refine lv_aload_n hx hb dX11_buy_24 rfl (lv_at hl 0 rfl) ?_
      refine lv_aload_n hx hb dX11_buy_25 rfl (lv_at hl 1 rfl) ?_
      refine t_gk hx hb hts hown hK hB mh0 th0 fq_11_3 hb_1 mw_2_210 dX11_buy_26 ?_
      refine t_gr hx hb hts hown hK hG hB mb_1 tb_1 fq_10_0 rfl mw_1_236 dX11_buy_29 (fun b_11 hb_11 mb_11 tb_11 => ?_)
      refine lv_iload_n hx hb dX11_buy_32 rfl (lv_at hl 2 rfl) ?_
      refine lv_iload_n hx hb dX11_buy_33 rfl (lv_at hl 3 rfl) ?_
      refine t_ci (va_runV (As := [.ref b_11, .int p1, .int p2]) (rest := []) ⟨hx, hb, hml, hown, hts⟩ (cy_X8_canPay l D cA L T r hG hLA.1 σ ρ_8 hB.2.1 _ b_2 mb_2 tb_2 b_11 mb_11 tb_11 p1 p2 (by first | omega | decide) (by first | omega | decide) (by first | omega | decide) (by first | omega | decide)) (cV hts mv_X8_canPay mw_4_174 rfl rfl ⟨Nat.le_of_ble_eq_true rfl, Nat.le_of_ble_eq_true rfl⟩) (pV hB.1 hK hN mb_2 tb_2 (show shp cA 8 _ _ _ = .inr (8, Fs8 _ _ _) from rfl) rfl) rfl rfl hl.1 rfl (lv_room (Nat.le_of_ble_eq_true rfl)) dX11_buy_34 ⟨Nat.le_of_ble_eq_true rfl, Nat.le_of_ble_eq_true rfl⟩) hLA hA hB hS (by decide) (fun x_14 σ_12 ρ_13 H locs hB fσ_12 pσ_12 hS => ?_)
      have qσ_12 := FR.nil fσ_12
      subst qσ_12
      obtain ⟨lx_14, ux_14⟩ := pσ_12
      refine lv_if_ne (tgt := 42) hx hb dX11_buy_37 (by decide) (fun c_15 => ?_) (fun c_15 => ?_)
      · skip
        have uc_15 := i_ne (n := 0) (by decide) c_15
        refine lv_aload_n hx hb dX11_buy_42 rfl (lv_at hl 1 rfl) ?_
        refine t_gr hx hb hts hown hK hG hB mh0 th0 fq_11_5 rfl mw_2_212 dX11_buy_43 (fun b_16 hb_16 mb_16 tb_16 => ?_)
        refine lv_aload_n hx hb dX11_buy_46 rfl (lv_at hl 0 rfl) ?_
        refine t_cv (va_runV (As := [.ref b_2]) (rest := []) ⟨hx, hb, hml, hown, hts⟩ (cy_X5_keep l D cA L T r hG hLA.1 σ ρ_13 hB.2.1 _ b_16 mb_16 tb_16 b_2 mb_2 tb_2) (cV hts mv_X5_keep mw_4_104 rfl rfl ⟨Nat.le_of_ble_eq_true rfl, Nat.le_of_ble_eq_true rfl⟩) (pV hB.1 hK hN mb_16 tb_16 (show shp cA 5 _ _ _ = .inr (5, Fs5 _ _ _) from rfl) rfl) rfl rfl hl.1 rfl (lv_room (Nat.le_of_ble_eq_true rfl)) dX11_buy_47 ⟨Nat.le_of_ble_eq_true rfl, Nat.le_of_ble_eq_true rfl⟩) hLA hA hB hS (by decide) (fun σ_17 ρ_18 H locs hB fσ_17 pσ_17 hS => ?_)
        refine lv_aload_n hx hb dX11_buy_50 rfl (lv_at hl 0 rfl) ?_
        refine t_gr hx hb hts hown hK hG hB mb_2 tb_2 fq_8_1 rfl mw_1_86 dX11_buy_51 (fun b_20 hb_20 mb_20 tb_20 => ?_)
        refine lv_iload_n hx hb dX11_buy_54 rfl (lv_at hl 2 rfl) ?_
        refine lv_dup2_11 hx hb dX11_buy_55 rfl rfl ?_
        refine t_ai hx hb hK hB mb_20 tb_20 ai_46 (fun _ => rfl) (i_in (by omega) (by omega)) dX11_buy_56 (fun x_21 ex_21 lx_21 ux_21 => ?_)
        have cx_21 := congrArg Int32.toInt ex_21
        refine lv_aload_n hx hb dX11_buy_57 rfl (lv_at hl 1 rfl) ?_
        refine t_gk hx hb hts hown hK hB mh0 th0 fq_11_3 hb_1 mw_2_210 dX11_buy_58 ?_
        refine t_gk hx hb hts hown hK hB mb_1 tb_1 fq_10_0 hb_11 mw_1_236 dX11_buy_61 ?_
        refine t_gr hx hb hts hown hK hG hB mb_11 tb_11 fq_3_2 rfl mw_1_144 dX11_buy_64 (fun b_22 hb_22 mb_22 tb_22 => ?_)
        refine lv_iload_n hx hb dX11_buy_67 rfl (lv_at hl 3 rfl) ?_
        refine t_ai hx hb hK hB mb_22 tb_22 ai_35 (fun _ => rfl) (i_in (by omega) (by omega)) dX11_buy_68 (fun x_23 ex_23 lx_23 ux_23 => ?_)
        have cx_23 := congrArg Int32.toInt ex_23
        refine lv_isub hx hb dX11_buy_69 ?_
        refine lv_topi (fun x_24 ex_24 => ?_)
        try have vx_24 := b_sub (rfl : x_21.toInt = _) (rfl : x_23.toInt = _) ex_24 (by omega) (by omega)
        refine t_si hx hb hK hLA hB hS mb_20 tb_20 ai_46 (i_in (by omega) (by omega)) (i_lo _) (i_hi _) (Or.inr (by decide)) dX11_buy_70 (fun H locs σ_25 eσ_25 hB hS => ?_)
        have k_26 : σ_25 b_20 p1.toNatClampNeg = x_24 := by rw [eσ_25]; exact up2_same _ _ _ _
        refine lv_aload_n hx hb dX11_buy_71 rfl (lv_at hl 0 rfl) ?_
        refine t_gr hx hb hts hown hK hG hB mb_2 tb_2 fq_8_4 rfl mw_1_98 dX11_buy_72 (fun b_27 hb_27 mb_27 tb_27 => ?_)
        refine lv_iload_n hx hb dX11_buy_75 rfl (lv_at hl 2 rfl) ?_
        refine lv_iconst (v := 5) hx hb dX11_buy_76 (by decide) ?_
        refine lv_imul hx hb dX11_buy_77 ?_
        refine lv_topi (fun x_28 ex_28 => ?_)
        try have vx_28 := b_mul (rfl : p1.toInt = _) (by decide : (5 : Int32).toInt = 5) ex_28 (by omega) (by omega)
        refine lv_iload_n hx hb dX11_buy_78 rfl (lv_at hl 3 rfl) ?_
        refine lv_iadd hx hb dX11_buy_79 ?_
        refine lv_topi (fun x_29 ex_29 => ?_)
        try have vx_29 := b_add (rfl : x_28.toInt = _) (rfl : p2.toInt = _) ex_29 (by omega) (by omega)
        refine lv_dup2_11 hx hb dX11_buy_80 rfl rfl ?_
        refine t_ai hx hb hK hB mb_27 tb_27 ai_49 (fun _ => rfl) (i_in (by omega) (by omega)) dX11_buy_81 (fun x_30 ex_30 lx_30 ux_30 => ?_)
        have cx_30 := congrArg Int32.toInt ex_30
        refine lv_iconst (v := 1) hx hb dX11_buy_82 (by decide) ?_
        refine lv_iadd hx hb dX11_buy_83 ?_
        refine lv_topi (fun x_31 ex_31 => ?_)
        try have vx_31 := b_add (rfl : x_30.toInt = _) (by decide : (1 : Int32).toInt = 1) ex_31 (by omega) (by omega)
        refine t_si hx hb hK hLA hB hS mb_27 tb_27 ai_49 (i_in (by omega) (by omega)) (i_lo _) (i_hi _) (Or.inr (by decide)) dX11_buy_84 (fun H locs σ_32 eσ_32 hB hS => ?_)
        have k_33 : σ_32 b_27 x_29.toNatClampNeg = x_31 := by rw [eσ_32]; exact up2_same _ _ _ _
        refine lv_aload_n hx hb dX11_buy_85 rfl (lv_at hl 0 rfl) ?_
        refine t_gk hx hb hts hown hK hB mb_2 tb_2 fq_8_1 hb_20 mw_1_86 dX11_buy_86 ?_
        refine lv_iload_n hx hb dX11_buy_89 rfl (lv_at hl 2 rfl) ?_
        have k_34 : σ_32 b_20 p1.toNatClampNeg = x_24 := by rw [eσ_32, up2_nea _ _ (tg_ne tb_20 tb_27 (by decide))]; exact k_26
        refine t_ai hx hb hK hB mb_20 tb_20 ai_46 (fun _ => rfl) (i_in (by omega) (by omega)) dX11_buy_90 (fun x_35 ex_35 lx_35 ux_35 => ?_)
        have qx_35 : x_35 = x_24 := ex_35.trans k_34
        have qx_35 := qx_35.symm
        subst qx_35
        exact W.iret (v := x_24) hx hb hr (fun t ht hW => ⟨⟨x_24, (σ_32, ρ_18), rfl, ⟨hB.2.1, hB.2.2, trivial⟩, (show TP D cA L T r σ_32 ρ_18 t.heap from by rw [ht]; exact hB.1)⟩, hS.F ht⟩) hS.2.2 dX11_buy_91
      · skip
        have uc_15 := i_eq (n := 0) (by decide) c_15
        refine lv_iconst (v := (-1)) hx hb dX11_buy_40 (by decide) ?_
        exact W.iret (v := (-1)) hx hb hr (fun t ht hW => ⟨⟨(-1), (σ, ρ_13), rfl, ⟨hB.2.1, hB.2.2, trivial⟩, (show TP D cA L T r σ ρ_13 t.heap from by rw [ht]; exact hB.1)⟩, hS.F ht⟩) hS.2.2 dX11_buy_41
theorem mw_4_183 : (.instanceMethod yX8_canPart : Cond) ∈ wsA := wsA_t (List.mem_append_right _ (List.mem_append_right _ (List.mem_append_right _ (List.mem_append_left _ (List.mem_of_getElem? (l := tables_1_4) (i := 183) rfl))))) rfl
theorem mw_4_184 : (.selects RX8 yX8_canPart yX8_canPart : Cond) ∈ wsA := wsA_t (List.mem_append_right _ (List.mem_append_right _ (List.mem_append_right _ (List.mem_append_left _ (List.mem_of_getElem? (l := tables_1_4) (i := 184) rfl))))) rfl
theorem mw_4_185 : (.code yX8_canPart cX8_canPart 3 (some .boolean) : Cond) ∈ wsA := wsA_t (List.mem_append_right _ (List.mem_append_right _ (List.mem_append_right _ (List.mem_append_left _ (List.mem_of_getElem? (l := tables_1_4) (i := 185) rfl))))) rfl
theorem mw_4_182 : (.methodLink RX11 219 yX8_canPart : Cond) ∈ wsA := wsA_t (List.mem_append_right _ (List.mem_append_right _ (List.mem_append_right _ (List.mem_append_left _ (List.mem_of_getElem? (l := tables_1_4) (i := 182) rfl))))) rfl
theorem mw_4_187 : (.instanceMethod yX8_part : Cond) ∈ wsA := wsA_t (List.mem_append_right _ (List.mem_append_right _ (List.mem_append_right _ (List.mem_append_left _ (List.mem_of_getElem? (l := tables_1_4) (i := 187) rfl))))) rfl
theorem mw_4_188 : (.selects RX8 yX8_part yX8_part : Cond) ∈ wsA := wsA_t (List.mem_append_right _ (List.mem_append_right _ (List.mem_append_right _ (List.mem_append_left _ (List.mem_of_getElem? (l := tables_1_4) (i := 188) rfl))))) rfl
theorem mw_4_189 : (.code yX8_part cX8_part 4 none : Cond) ∈ wsA := wsA_t (List.mem_append_right _ (List.mem_append_right _ (List.mem_append_right _ (List.mem_append_left _ (List.mem_of_getElem? (l := tables_1_4) (i := 189) rfl))))) rfl
theorem mw_4_186 : (.methodLink RX11 223 yX8_part : Cond) ∈ wsA := wsA_t (List.mem_append_right _ (List.mem_append_right _ (List.mem_append_right _ (List.mem_append_left _ (List.mem_of_getElem? (l := tables_1_4) (i := 186) rfl))))) rfl
theorem dX11_sell_0 : decode cX11_sell 0 = .ok (.aload_n 0, 1) := by decide +kernel
theorem dX11_sell_1 : decode cX11_sell 1 = .ok (.getfield 32, 3) := by decide +kernel
theorem dX11_sell_4 : decode cX11_sell 4 = .ok (.getfield 121, 3) := by decide +kernel
theorem dX11_sell_7 : decode cX11_sell 7 = .ok (.astore_n 3, 1) := by decide +kernel
theorem dX11_sell_8 : decode cX11_sell 8 = .ok (.aload_n 0, 1) := by decide +kernel
theorem dX11_sell_9 : decode cX11_sell 9 = .ok (.iload_n 1, 1) := by decide +kernel
theorem dX11_sell_10 : decode cX11_sell 10 = .ok (.invokevirtual 117, 3) := by decide +kernel
theorem dX11_sell_13 : decode cX11_sell 13 = .ok (.ifCond .eq 20, 3) := by decide +kernel
theorem dX11_sell_33 : decode cX11_sell 33 = .ok (.iconst (-1), 1) := by decide +kernel
theorem dX11_sell_34 : decode cX11_sell 34 = .ok (.ireturn, 1) := by decide +kernel
theorem dX11_sell_16 : decode cX11_sell 16 = .ok (.aload_n 0, 1) := by decide +kernel
theorem dX11_sell_17 : decode cX11_sell 17 = .ok (.iload_n 2, 1) := by decide +kernel
theorem dX11_sell_18 : decode cX11_sell 18 = .ok (.invokevirtual 166, 3) := by decide +kernel
theorem dX11_sell_21 : decode cX11_sell 21 = .ok (.ifCond .eq 12, 3) := by decide +kernel
theorem dX11_sell_24 : decode cX11_sell 24 = .ok (.aload_n 3, 1) := by decide +kernel
theorem dX11_sell_25 : decode cX11_sell 25 = .ok (.iload_n 1, 1) := by decide +kernel
theorem dX11_sell_26 : decode cX11_sell 26 = .ok (.iload_n 2, 1) := by decide +kernel
theorem dX11_sell_27 : decode cX11_sell 27 = .ok (.invokevirtual 219, 3) := by decide +kernel
theorem dX11_sell_30 : decode cX11_sell 30 = .ok (.ifCond .ne 5, 3) := by decide +kernel
theorem dX11_sell_35 : decode cX11_sell 35 = .ok (.aload_n 0, 1) := by decide +kernel
theorem dX11_sell_36 : decode cX11_sell 36 = .ok (.getfield 43, 3) := by decide +kernel
theorem dX11_sell_39 : decode cX11_sell 39 = .ok (.aload_n 3, 1) := by decide +kernel
theorem dX11_sell_40 : decode cX11_sell 40 = .ok (.invokevirtual 188, 3) := by decide +kernel
theorem dX11_sell_43 : decode cX11_sell 43 = .ok (.aload_n 3, 1) := by decide +kernel
theorem dX11_sell_44 : decode cX11_sell 44 = .ok (.aload_n 0, 1) := by decide +kernel
theorem dX11_sell_45 : decode cX11_sell 45 = .ok (.getfield 32, 3) := by decide +kernel
theorem dX11_sell_48 : decode cX11_sell 48 = .ok (.getfield 102, 3) := by decide +kernel
theorem dX11_sell_51 : decode cX11_sell 51 = .ok (.iload_n 1, 1) := by decide +kernel
theorem dX11_sell_52 : decode cX11_sell 52 = .ok (.iload_n 2, 1) := by decide +kernel
theorem dX11_sell_53 : decode cX11_sell 53 = .ok (.invokevirtual 223, 3) := by decide +kernel
theorem dX11_sell_56 : decode cX11_sell 56 = .ok (.aload_n 3, 1) := by decide +kernel
theorem dX11_sell_57 : decode cX11_sell 57 = .ok (.getfield 131, 3) := by decide +kernel
theorem dX11_sell_60 : decode cX11_sell 60 = .ok (.iload_n 1, 1) := by decide +kernel
theorem dX11_sell_61 : decode cX11_sell 61 = .ok (.iaload, 1) := by decide +kernel
theorem dX11_sell_62 : decode cX11_sell 62 = .ok (.ireturn, 1) := by decide +kernel
theorem mv_X8_canPart : MV RX8 yX8_canPart cX8_canPart 3 (some .boolean) 2 := ⟨mw_4_183, mw_4_184, mw_1_5, mw_4_185, ⟨rfl, by decide, by decide, by decide +kernel⟩⟩
theorem mv_X8_part : MV RX8 yX8_part cX8_part 4 none 3 := ⟨mw_4_187, mw_4_188, mw_1_5, mw_4_189, ⟨rfl, by decide, by decide, by decide +kernel⟩⟩
set_option maxHeartbeats 4000000 in
set_option maxRecDepth 100000 in
theorem cy_X11_sell (l : Launch) (D : va_G) (cA : Nat → ClassId) (L : List Nat) (T : Nat → Nat) (r : Rg) (hG : GR L T r) (hL : L.Nodup) (σ : Sg) (ρ : Lg) (hW : WT L ry T σ) (sz : Nat) (h0 : Nat) (mh0 : h0 ∈ L) (th0 : T h0 = 11) (p1 : Int32) (p2 : Int32) : Met l yX11_sell (.code yX11_sell cX11_sell 4 (some .int) :: wsA) ({ frames := 3, cells := 0, slots := 0, locals := 142 }) (PR D cA L T r σ ρ sz [.ref h0, .int p1, .int p2]) (QI D cA L T r ry [(5, 1), (5, 2), (46, 1000), (49, 1000), (102, 6), (102, 7), (119, 1000), (120, 1000), (121, 1000), (122, 1000), (123, 1000), (124, 1000)] σ sz (fun x σ1 => True)) 0 0 (dm L sz) := by
  refine Met.ofW (cc := cX11_sell) (maxL := 4) (ret := (some .int)) (by decide) rfl ?_
  intro p e s m args below meth c s₁ B hml hv
  obtain ⟨rfl, hsz, hP, hK, hN⟩ := hv
  have hx := B.exec
  have hb := B.bytes
  have hr := B.returns
  have hts : ∀ w ∈ wsA, w.before _ s = true := fun w h => atoms_spec (ws := .code yX11_sell cX11_sell 4 (some .int) :: wsA) B.pre w (List.mem_cons_of_mem _ h)
  have hown : s.vm.findClass RX11 = some m.cls := findClass_of_methodNamed B.named
  subst hsz
  have hLA : LA (dm L s.heap.size) L := ⟨hL, fun a h => Or.inl h⟩
  have hA : ∀ q : Nat, s.heap.size ≤ q → dm L s.heap.size q := fun q h => Or.inr h
  have hS : va_S (dm L s.heap.size) s.heap s.heap [] := va_S.rf
  have hB : TS D cA L T r ry [(5, 1), (5, 2), (46, 1000), (49, 1000), (102, 6), (102, 7), (119, 1000), (120, 1000), (121, 1000), (122, 1000), (123, 1000), (124, 1000)] σ σ ρ s.heap := ⟨hP, hW, FR.rf⟩
  have hl := lv_entry ([.ref h0, .int p1, .int p2]) (n := 4) (Nat.le_of_ble_eq_true rfl)
  rw [lg_entry_eq]
  generalize (lg_sl ([.ref h0, .int p1, .int p2]) ++ List.replicate (4 - (lg_sl ([.ref h0, .int p1, .int p2])).length) Slot.unset).toArray = ls at hl ⊢
  have hl : lv_has ls 4 [(0, .ref h0), (1, .int p1), (2, .int p2)] := hl
  refine lv_aload_n hx hb dX11_sell_0 rfl (lv_at hl 0 rfl) ?_
  refine t_gr hx hb hts hown hK hG hB mh0 th0 fq_11_3 rfl mw_2_210 dX11_sell_1 (fun b_1 hb_1 mb_1 tb_1 => ?_)
  refine t_gr hx hb hts hown hK hG hB mb_1 tb_1 fq_10_1 rfl mw_1_239 dX11_sell_4 (fun b_2 hb_2 mb_2 tb_2 => ?_)
  refine lv_astore_n (lv' := [(3, .ref b_2), (0, .ref h0), (1, .int p1), (2, .int p2)]) hx hb dX11_sell_7 rfl hl (by decide) rfl (fun ls hl => ?_)
  refine lv_aload_n hx hb dX11_sell_8 rfl (lv_at hl 1 rfl) ?_
  refine lv_iload_n hx hb dX11_sell_9 rfl (lv_at hl 2 rfl) ?_
  refine t_ci (va_runV (As := [.int p1]) (rest := []) ⟨hx, hb, hml, hown, hts⟩ (cy_X11_isPilgrim l D cA L T r hG hLA.1 σ ρ hB.2.1 _ h0 mh0 th0 p1) (cV hts mv_X11_isPilgrim mw_4_70 rfl rfl ⟨Nat.le_of_ble_eq_true rfl, Nat.le_of_ble_eq_true rfl⟩) (pV hB.1 hK hN mh0 th0 (show shp cA 11 _ _ _ = .inr (11, Fs11 _ _ _) from rfl) rfl) rfl rfl hl.1 rfl (lv_room (Nat.le_of_ble_eq_true rfl)) dX11_sell_10 ⟨Nat.le_of_ble_eq_true rfl, Nat.le_of_ble_eq_true rfl⟩) hLA hA hB hS (by decide) (fun x_5 σ_3 ρ_4 H locs hB fσ_3 pσ_3 hS => ?_)
  have qσ_3 := FR.nil fσ_3
  subst qσ_3
  obtain ⟨ox_5, ix_5⟩ := pσ_3
  refine lv_if_eq (tgt := 33) hx hb dX11_sell_13 (by decide) (fun c_6 => ?_) (fun c_6 => ?_)
  · skip
    have uc_6 := i_eq (n := 0) (by decide) c_6
    refine lv_iconst (v := (-1)) hx hb dX11_sell_33 (by decide) ?_
    exact W.iret (v := (-1)) hx hb hr (fun t ht hW => ⟨⟨(-1), (σ, ρ_4), rfl, ⟨hB.2.1, hB.2.2, trivial⟩, (show TP D cA L T r σ ρ_4 t.heap from by rw [ht]; exact hB.1)⟩, hS.F ht⟩) hS.2.2 dX11_sell_34
  · skip
    have uc_6 := i_ne (n := 0) (by decide) c_6
    refine lv_aload_n hx hb dX11_sell_16 rfl (lv_at hl 1 rfl) ?_
    refine lv_iload_n hx hb dX11_sell_17 rfl (lv_at hl 3 rfl) ?_
    refine t_ci (va_runV (As := [.int p2]) (rest := []) ⟨hx, hb, hml, hown, hts⟩ (cy_X11_isSort l D cA L T r hG hLA.1 σ ρ_4 hB.2.1 _ h0 mh0 th0 p2) (cV hts mv_X11_isSort mw_4_91 rfl rfl ⟨Nat.le_of_ble_eq_true rfl, Nat.le_of_ble_eq_true rfl⟩) (pV hB.1 hK hN mh0 th0 (show shp cA 11 _ _ _ = .inr (11, Fs11 _ _ _) from rfl) rfl) rfl rfl hl.1 rfl (lv_room (Nat.le_of_ble_eq_true rfl)) dX11_sell_18 ⟨Nat.le_of_ble_eq_true rfl, Nat.le_of_ble_eq_true rfl⟩) hLA hA hB hS (by decide) (fun x_9 σ_7 ρ_8 H locs hB fσ_7 pσ_7 hS => ?_)
    have qσ_7 := FR.nil fσ_7
    subst qσ_7
    obtain ⟨ox_9, ix_9⟩ := pσ_7
    refine lv_if_eq (tgt := 33) hx hb dX11_sell_21 (by decide) (fun c_10 => ?_) (fun c_10 => ?_)
    · skip
      have uc_10 := i_eq (n := 0) (by decide) c_10
      refine lv_iconst (v := (-1)) hx hb dX11_sell_33 (by decide) ?_
      exact W.iret (v := (-1)) hx hb hr (fun t ht hW => ⟨⟨(-1), (σ, ρ_8), rfl, ⟨hB.2.1, hB.2.2, trivial⟩, (show TP D cA L T r σ ρ_8 t.heap from by rw [ht]; exact hB.1)⟩, hS.F ht⟩) hS.2.2 dX11_sell_34
    · skip
      have uc_10 := i_ne (n := 0) (by decide) c_10
      refine lv_aload_n hx hb dX11_sell_24 rfl (lv_at hl 0 rfl) ?_
      refine lv_iload_n hx hb dX11_sell_25 rfl (lv_at hl 2 rfl) ?_
      refine lv_iload_n hx hb dX11_sell_26 rfl (lv_at hl 3 rfl) ?_
      refine t_ci (va_runV (As := [.int p1, .int p2]) (rest := []) ⟨hx, hb, hml, hown, hts⟩ (cy_X8_canPart l D cA L T r hG hLA.1 σ ρ_8 hB.2.1 _ b_2 mb_2 tb_2 p1 p2 (by first | omega | decide) (by first | omega | decide) (by first | omega | decide) (by first | omega | decide)) (cV hts mv_X8_canPart mw_4_182 rfl rfl ⟨Nat.le_of_ble_eq_true rfl, Nat.le_of_ble_eq_true rfl⟩) (pV hB.1 hK hN mb_2 tb_2 (show shp cA 8 _ _ _ = .inr (8, Fs8 _ _ _) from rfl) rfl) rfl rfl hl.1 rfl (lv_room (Nat.le_of_ble_eq_true rfl)) dX11_sell_27 ⟨Nat.le_of_ble_eq_true rfl, Nat.le_of_ble_eq_true rfl⟩) hLA hA hB hS (by decide) (fun x_13 σ_11 ρ_12 H locs hB fσ_11 pσ_11 hS => ?_)
      have qσ_11 := FR.nil fσ_11
      subst qσ_11
      obtain ⟨lx_13, ux_13⟩ := pσ_11
      refine lv_if_ne (tgt := 35) hx hb dX11_sell_30 (by decide) (fun c_14 => ?_) (fun c_14 => ?_)
      · skip
        have uc_14 := i_ne (n := 0) (by decide) c_14
        refine lv_aload_n hx hb dX11_sell_35 rfl (lv_at hl 1 rfl) ?_
        refine t_gr hx hb hts hown hK hG hB mh0 th0 fq_11_5 rfl mw_2_212 dX11_sell_36 (fun b_15 hb_15 mb_15 tb_15 => ?_)
        refine lv_aload_n hx hb dX11_sell_39 rfl (lv_at hl 0 rfl) ?_
        refine t_cv (va_runV (As := [.ref b_2]) (rest := []) ⟨hx, hb, hml, hown, hts⟩ (cy_X5_keep l D cA L T r hG hLA.1 σ ρ_12 hB.2.1 _ b_15 mb_15 tb_15 b_2 mb_2 tb_2) (cV hts mv_X5_keep mw_4_104 rfl rfl ⟨Nat.le_of_ble_eq_true rfl, Nat.le_of_ble_eq_true rfl⟩) (pV hB.1 hK hN mb_15 tb_15 (show shp cA 5 _ _ _ = .inr (5, Fs5 _ _ _) from rfl) rfl) rfl rfl hl.1 rfl (lv_room (Nat.le_of_ble_eq_true rfl)) dX11_sell_40 ⟨Nat.le_of_ble_eq_true rfl, Nat.le_of_ble_eq_true rfl⟩) hLA hA hB hS (by decide) (fun σ_16 ρ_17 H locs hB fσ_16 pσ_16 hS => ?_)
        refine lv_aload_n hx hb dX11_sell_43 rfl (lv_at hl 0 rfl) ?_
        refine lv_aload_n hx hb dX11_sell_44 rfl (lv_at hl 1 rfl) ?_
        refine t_gk hx hb hts hown hK hB mh0 th0 fq_11_3 hb_1 mw_2_210 dX11_sell_45 ?_
        refine t_gr hx hb hts hown hK hG hB mb_1 tb_1 fq_10_0 rfl mw_1_236 dX11_sell_48 (fun b_19 hb_19 mb_19 tb_19 => ?_)
        refine lv_iload_n hx hb dX11_sell_51 rfl (lv_at hl 2 rfl) ?_
        refine lv_iload_n hx hb dX11_sell_52 rfl (lv_at hl 3 rfl) ?_
        refine t_cv (va_runV (As := [.ref b_19, .int p1, .int p2]) (rest := []) ⟨hx, hb, hml, hown, hts⟩ (cy_X8_part l D cA L T r hG hLA.1 σ_16 ρ_17 hB.2.1 _ b_2 mb_2 tb_2 b_19 mb_19 tb_19 p1 p2 (by first | omega | decide) (by first | omega | decide) (by first | omega | decide) (by first | omega | decide)) (cV hts mv_X8_part mw_4_186 rfl rfl ⟨Nat.le_of_ble_eq_true rfl, Nat.le_of_ble_eq_true rfl⟩) (pV hB.1 hK hN mb_2 tb_2 (show shp cA 8 _ _ _ = .inr (8, Fs8 _ _ _) from rfl) rfl) rfl rfl hl.1 rfl (lv_room (Nat.le_of_ble_eq_true rfl)) dX11_sell_53 ⟨Nat.le_of_ble_eq_true rfl, Nat.le_of_ble_eq_true rfl⟩) hLA hA hB hS (by decide) (fun σ_20 ρ_21 H locs hB fσ_20 pσ_20 hS => ?_)
        refine lv_aload_n hx hb dX11_sell_56 rfl (lv_at hl 0 rfl) ?_
        refine t_gr hx hb hts hown hK hG hB mb_2 tb_2 fq_8_1 rfl mw_1_86 dX11_sell_57 (fun b_23 hb_23 mb_23 tb_23 => ?_)
        refine lv_iload_n hx hb dX11_sell_60 rfl (lv_at hl 2 rfl) ?_
        refine t_ai hx hb hK hB mb_23 tb_23 ai_46 (fun _ => rfl) (i_in (by omega) (by omega)) dX11_sell_61 (fun x_24 ex_24 lx_24 ux_24 => ?_)
        have cx_24 := congrArg Int32.toInt ex_24
        exact W.iret (v := x_24) hx hb hr (fun t ht hW => ⟨⟨x_24, (σ_20, ρ_21), rfl, ⟨hB.2.1, hB.2.2, trivial⟩, (show TP D cA L T r σ_20 ρ_21 t.heap from by rw [ht]; exact hB.1)⟩, hS.F ht⟩) hS.2.2 dX11_sell_62
      · skip
        have uc_14 := i_eq (n := 0) (by decide) c_14
        refine lv_iconst (v := (-1)) hx hb dX11_sell_33 (by decide) ?_
        exact W.iret (v := (-1)) hx hb hr (fun t ht hW => ⟨⟨(-1), (σ, ρ_12), rfl, ⟨hB.2.1, hB.2.2, trivial⟩, (show TP D cA L T r σ ρ_12 t.heap from by rw [ht]; exact hB.1)⟩, hS.F ht⟩) hS.2.2 dX11_sell_34
theorem mw_4_198 : (.methodLink RX11 230 yX8_canCarry : Cond) ∈ wsA := wsA_t (List.mem_append_right _ (List.mem_append_right _ (List.mem_append_right _ (List.mem_append_left _ (List.mem_of_getElem? (l := tables_1_4) (i := 198) rfl))))) rfl
theorem dX11_hand_0 : decode cX11_hand 0 = .ok (.aload_n 0, 1) := by decide +kernel
theorem dX11_hand_1 : decode cX11_hand 1 = .ok (.getfield 32, 3) := by decide +kernel
theorem dX11_hand_4 : decode cX11_hand 4 = .ok (.getfield 121, 3) := by decide +kernel
theorem dX11_hand_7 : decode cX11_hand 7 = .ok (.astore 4, 2) := by decide +kernel
theorem dX11_hand_9 : decode cX11_hand 9 = .ok (.aload_n 0, 1) := by decide +kernel
theorem dX11_hand_10 : decode cX11_hand 10 = .ok (.iload_n 1, 1) := by decide +kernel
theorem dX11_hand_11 : decode cX11_hand 11 = .ok (.iload_n 2, 1) := by decide +kernel
theorem dX11_hand_12 : decode cX11_hand 12 = .ok (.invokevirtual 227, 3) := by decide +kernel
theorem dX11_hand_15 : decode cX11_hand 15 = .ok (.ifCond .eq 11, 3) := by decide +kernel
theorem dX11_hand_26 : decode cX11_hand 26 = .ok (.iconst (-1), 1) := by decide +kernel
theorem dX11_hand_27 : decode cX11_hand 27 = .ok (.ireturn, 1) := by decide +kernel
theorem dX11_hand_18 : decode cX11_hand 18 = .ok (.aload_n 0, 1) := by decide +kernel
theorem dX11_hand_19 : decode cX11_hand 19 = .ok (.iload_n 3, 1) := by decide +kernel
theorem dX11_hand_20 : decode cX11_hand 20 = .ok (.invokevirtual 166, 3) := by decide +kernel
theorem dX11_hand_23 : decode cX11_hand 23 = .ok (.ifCond .ne 5, 3) := by decide +kernel
theorem dX11_hand_28 : decode cX11_hand 28 = .ok (.aload 4, 2) := by decide +kernel
theorem dX11_hand_30 : decode cX11_hand 30 = .ok (.getfield 144, 3) := by decide +kernel
theorem dX11_hand_33 : decode cX11_hand 33 = .ok (.iload_n 1, 1) := by decide +kernel
theorem dX11_hand_34 : decode cX11_hand 34 = .ok (.iconst 5, 1) := by decide +kernel
theorem dX11_hand_35 : decode cX11_hand 35 = .ok (.imul, 1) := by decide +kernel
theorem dX11_hand_36 : decode cX11_hand 36 = .ok (.iload_n 3, 1) := by decide +kernel
theorem dX11_hand_37 : decode cX11_hand 37 = .ok (.iadd, 1) := by decide +kernel
theorem dX11_hand_38 : decode cX11_hand 38 = .ok (.iaload, 1) := by decide +kernel
theorem dX11_hand_39 : decode cX11_hand 39 = .ok (.ifCond .le 20, 3) := by decide +kernel
theorem dX11_hand_59 : decode cX11_hand 59 = .ok (.iconst (-1), 1) := by decide +kernel
theorem dX11_hand_60 : decode cX11_hand 60 = .ok (.ireturn, 1) := by decide +kernel
theorem dX11_hand_42 : decode cX11_hand 42 = .ok (.aload 4, 2) := by decide +kernel
theorem dX11_hand_44 : decode cX11_hand 44 = .ok (.aload_n 0, 1) := by decide +kernel
theorem dX11_hand_45 : decode cX11_hand 45 = .ok (.getfield 32, 3) := by decide +kernel
theorem dX11_hand_48 : decode cX11_hand 48 = .ok (.getfield 102, 3) := by decide +kernel
theorem dX11_hand_51 : decode cX11_hand 51 = .ok (.iload_n 2, 1) := by decide +kernel
theorem dX11_hand_52 : decode cX11_hand 52 = .ok (.iload_n 3, 1) := by decide +kernel
theorem dX11_hand_53 : decode cX11_hand 53 = .ok (.invokevirtual 230, 3) := by decide +kernel
theorem dX11_hand_56 : decode cX11_hand 56 = .ok (.ifCond .ne 5, 3) := by decide +kernel
theorem dX11_hand_61 : decode cX11_hand 61 = .ok (.aload_n 0, 1) := by decide +kernel
theorem dX11_hand_62 : decode cX11_hand 62 = .ok (.getfield 43, 3) := by decide +kernel
theorem dX11_hand_65 : decode cX11_hand 65 = .ok (.aload 4, 2) := by decide +kernel
theorem dX11_hand_67 : decode cX11_hand 67 = .ok (.invokevirtual 188, 3) := by decide +kernel
theorem dX11_hand_70 : decode cX11_hand 70 = .ok (.aload 4, 2) := by decide +kernel
theorem dX11_hand_72 : decode cX11_hand 72 = .ok (.getfield 144, 3) := by decide +kernel
theorem dX11_hand_75 : decode cX11_hand 75 = .ok (.iload_n 1, 1) := by decide +kernel
theorem dX11_hand_76 : decode cX11_hand 76 = .ok (.iconst 5, 1) := by decide +kernel
theorem dX11_hand_77 : decode cX11_hand 77 = .ok (.imul, 1) := by decide +kernel
theorem dX11_hand_78 : decode cX11_hand 78 = .ok (.iload_n 3, 1) := by decide +kernel
theorem dX11_hand_79 : decode cX11_hand 79 = .ok (.iadd, 1) := by decide +kernel
theorem dX11_hand_80 : decode cX11_hand 80 = .ok (.dup2, 1) := by decide +kernel
theorem dX11_hand_81 : decode cX11_hand 81 = .ok (.iaload, 1) := by decide +kernel
theorem dX11_hand_82 : decode cX11_hand 82 = .ok (.iconst 1, 1) := by decide +kernel
theorem dX11_hand_83 : decode cX11_hand 83 = .ok (.isub, 1) := by decide +kernel
theorem dX11_hand_84 : decode cX11_hand 84 = .ok (.iastore, 1) := by decide +kernel
theorem dX11_hand_85 : decode cX11_hand 85 = .ok (.aload 4, 2) := by decide +kernel
theorem dX11_hand_87 : decode cX11_hand 87 = .ok (.getfield 144, 3) := by decide +kernel
theorem dX11_hand_90 : decode cX11_hand 90 = .ok (.iload_n 2, 1) := by decide +kernel
theorem dX11_hand_91 : decode cX11_hand 91 = .ok (.iconst 5, 1) := by decide +kernel
theorem dX11_hand_92 : decode cX11_hand 92 = .ok (.imul, 1) := by decide +kernel
theorem dX11_hand_93 : decode cX11_hand 93 = .ok (.iload_n 3, 1) := by decide +kernel
theorem dX11_hand_94 : decode cX11_hand 94 = .ok (.iadd, 1) := by decide +kernel
theorem dX11_hand_95 : decode cX11_hand 95 = .ok (.dup2, 1) := by decide +kernel
theorem dX11_hand_96 : decode cX11_hand 96 = .ok (.iaload, 1) := by decide +kernel
theorem dX11_hand_97 : decode cX11_hand 97 = .ok (.iconst 1, 1) := by decide +kernel
theorem dX11_hand_98 : decode cX11_hand 98 = .ok (.iadd, 1) := by decide +kernel
theorem dX11_hand_99 : decode cX11_hand 99 = .ok (.iastore, 1) := by decide +kernel
theorem dX11_hand_100 : decode cX11_hand 100 = .ok (.aload 4, 2) := by decide +kernel
theorem dX11_hand_102 : decode cX11_hand 102 = .ok (.getfield 144, 3) := by decide +kernel
theorem dX11_hand_105 : decode cX11_hand 105 = .ok (.iload_n 2, 1) := by decide +kernel
theorem dX11_hand_106 : decode cX11_hand 106 = .ok (.iconst 5, 1) := by decide +kernel
theorem dX11_hand_107 : decode cX11_hand 107 = .ok (.imul, 1) := by decide +kernel
theorem dX11_hand_108 : decode cX11_hand 108 = .ok (.iload_n 3, 1) := by decide +kernel
theorem dX11_hand_109 : decode cX11_hand 109 = .ok (.iadd, 1) := by decide +kernel
theorem dX11_hand_110 : decode cX11_hand 110 = .ok (.iaload, 1) := by decide +kernel
theorem dX11_hand_111 : decode cX11_hand 111 = .ok (.ireturn, 1) := by decide +kernel
set_option maxHeartbeats 4000000 in
set_option maxRecDepth 100000 in
theorem cy_X11_hand (l : Launch) (D : va_G) (cA : Nat → ClassId) (L : List Nat) (T : Nat → Nat) (r : Rg) (hG : GR L T r) (hL : L.Nodup) (σ : Sg) (ρ : Lg) (hW : WT L ry T σ) (sz : Nat) (h0 : Nat) (mh0 : h0 ∈ L) (th0 : T h0 = 11) (p1 : Int32) (p2 : Int32) (p3 : Int32) : Met l yX11_hand (.code yX11_hand cX11_hand 5 (some .int) :: wsA) ({ frames := 3, cells := 0, slots := 0, locals := 142 }) (PR D cA L T r σ ρ sz [.ref h0, .int p1, .int p2, .int p3]) (QI D cA L T r ry [(5, 1), (5, 2), (49, 1000), (102, 6), (102, 7), (119, 1000), (120, 1000), (121, 1000), (122, 1000), (123, 1000), (124, 1000)] σ sz (fun x σ1 => True)) 0 0 (dm L sz) := by
  refine Met.ofW (cc := cX11_hand) (maxL := 5) (ret := (some .int)) (by decide) rfl ?_
  intro p e s m args below meth c s₁ B hml hv
  obtain ⟨rfl, hsz, hP, hK, hN⟩ := hv
  have hx := B.exec
  have hb := B.bytes
  have hr := B.returns
  have hts : ∀ w ∈ wsA, w.before _ s = true := fun w h => atoms_spec (ws := .code yX11_hand cX11_hand 5 (some .int) :: wsA) B.pre w (List.mem_cons_of_mem _ h)
  have hown : s.vm.findClass RX11 = some m.cls := findClass_of_methodNamed B.named
  subst hsz
  have hLA : LA (dm L s.heap.size) L := ⟨hL, fun a h => Or.inl h⟩
  have hA : ∀ q : Nat, s.heap.size ≤ q → dm L s.heap.size q := fun q h => Or.inr h
  have hS : va_S (dm L s.heap.size) s.heap s.heap [] := va_S.rf
  have hB : TS D cA L T r ry [(5, 1), (5, 2), (49, 1000), (102, 6), (102, 7), (119, 1000), (120, 1000), (121, 1000), (122, 1000), (123, 1000), (124, 1000)] σ σ ρ s.heap := ⟨hP, hW, FR.rf⟩
  have hl := lv_entry ([.ref h0, .int p1, .int p2, .int p3]) (n := 5) (Nat.le_of_ble_eq_true rfl)
  rw [lg_entry_eq]
  generalize (lg_sl ([.ref h0, .int p1, .int p2, .int p3]) ++ List.replicate (5 - (lg_sl ([.ref h0, .int p1, .int p2, .int p3])).length) Slot.unset).toArray = ls at hl ⊢
  have hl : lv_has ls 5 [(0, .ref h0), (1, .int p1), (2, .int p2), (3, .int p3)] := hl
  refine lv_aload_n hx hb dX11_hand_0 rfl (lv_at hl 0 rfl) ?_
  refine t_gr hx hb hts hown hK hG hB mh0 th0 fq_11_3 rfl mw_2_210 dX11_hand_1 (fun b_1 hb_1 mb_1 tb_1 => ?_)
  refine t_gr hx hb hts hown hK hG hB mb_1 tb_1 fq_10_1 rfl mw_1_239 dX11_hand_4 (fun b_2 hb_2 mb_2 tb_2 => ?_)
  refine lv_astore (lv' := [(4, .ref b_2), (0, .ref h0), (1, .int p1), (2, .int p2), (3, .int p3)]) hx hb dX11_hand_7 hl (by decide) rfl (fun ls hl => ?_)
  refine lv_aload_n hx hb dX11_hand_9 rfl (lv_at hl 1 rfl) ?_
  refine lv_iload_n hx hb dX11_hand_10 rfl (lv_at hl 2 rfl) ?_
  refine lv_iload_n hx hb dX11_hand_11 rfl (lv_at hl 3 rfl) ?_
  refine t_ci (va_runV (As := [.int p1, .int p2]) (rest := []) ⟨hx, hb, hml, hown, hts⟩ (cy_X11_areTogether l D cA L T r hG hLA.1 σ ρ hB.2.1 _ h0 mh0 th0 p1 p2) (cV hts mv_X11_areTogether mw_4_194 rfl rfl ⟨Nat.le_of_ble_eq_true rfl, Nat.le_of_ble_eq_true rfl⟩) (pV hB.1 hK hN mh0 th0 (show shp cA 11 _ _ _ = .inr (11, Fs11 _ _ _) from rfl) rfl) rfl rfl hl.1 rfl (lv_room (Nat.le_of_ble_eq_true rfl)) dX11_hand_12 ⟨Nat.le_of_ble_eq_true rfl, Nat.le_of_ble_eq_true rfl⟩) hLA hA hB hS (by decide) (fun x_5 σ_3 ρ_4 H locs hB fσ_3 pσ_3 hS => ?_)
  have qσ_3 := FR.nil fσ_3
  subst qσ_3
  obtain ⟨ox_5, ix_5⟩ := pσ_3
  refine lv_if_eq (tgt := 26) hx hb dX11_hand_15 (by decide) (fun c_6 => ?_) (fun c_6 => ?_)
  · skip
    have uc_6 := i_eq (n := 0) (by decide) c_6
    refine lv_iconst (v := (-1)) hx hb dX11_hand_26 (by decide) ?_
    exact W.iret (v := (-1)) hx hb hr (fun t ht hW => ⟨⟨(-1), (σ, ρ_4), rfl, ⟨hB.2.1, hB.2.2, trivial⟩, (show TP D cA L T r σ ρ_4 t.heap from by rw [ht]; exact hB.1)⟩, hS.F ht⟩) hS.2.2 dX11_hand_27
  · skip
    have uc_6 := i_ne (n := 0) (by decide) c_6
    refine lv_aload_n hx hb dX11_hand_18 rfl (lv_at hl 1 rfl) ?_
    refine lv_iload_n hx hb dX11_hand_19 rfl (lv_at hl 4 rfl) ?_
    refine t_ci (va_runV (As := [.int p3]) (rest := []) ⟨hx, hb, hml, hown, hts⟩ (cy_X11_isSort l D cA L T r hG hLA.1 σ ρ_4 hB.2.1 _ h0 mh0 th0 p3) (cV hts mv_X11_isSort mw_4_91 rfl rfl ⟨Nat.le_of_ble_eq_true rfl, Nat.le_of_ble_eq_true rfl⟩) (pV hB.1 hK hN mh0 th0 (show shp cA 11 _ _ _ = .inr (11, Fs11 _ _ _) from rfl) rfl) rfl rfl hl.1 rfl (lv_room (Nat.le_of_ble_eq_true rfl)) dX11_hand_20 ⟨Nat.le_of_ble_eq_true rfl, Nat.le_of_ble_eq_true rfl⟩) hLA hA hB hS (by decide) (fun x_9 σ_7 ρ_8 H locs hB fσ_7 pσ_7 hS => ?_)
    have qσ_7 := FR.nil fσ_7
    subst qσ_7
    obtain ⟨ox_9, ix_9⟩ := pσ_7
    refine lv_if_ne (tgt := 28) hx hb dX11_hand_23 (by decide) (fun c_10 => ?_) (fun c_10 => ?_)
    · skip
      have uc_10 := i_ne (n := 0) (by decide) c_10
      refine lv_aload hx hb dX11_hand_28 (lv_at hl 0 rfl) ?_
      refine t_gr hx hb hts hown hK hG hB mb_2 tb_2 fq_8_4 rfl mw_1_98 dX11_hand_30 (fun b_11 hb_11 mb_11 tb_11 => ?_)
      refine lv_iload_n hx hb dX11_hand_33 rfl (lv_at hl 2 rfl) ?_
      refine lv_iconst (v := 5) hx hb dX11_hand_34 (by decide) ?_
      refine lv_imul hx hb dX11_hand_35 ?_
      refine lv_topi (fun x_12 ex_12 => ?_)
      try have vx_12 := b_mul (rfl : p1.toInt = _) (by decide : (5 : Int32).toInt = 5) ex_12 (by omega) (by omega)
      refine lv_iload_n hx hb dX11_hand_36 rfl (lv_at hl 4 rfl) ?_
      refine lv_iadd hx hb dX11_hand_37 ?_
      refine lv_topi (fun x_13 ex_13 => ?_)
      try have vx_13 := b_add (rfl : x_12.toInt = _) (rfl : p3.toInt = _) ex_13 (by omega) (by omega)
      refine t_ai hx hb hK hB mb_11 tb_11 ai_49 (fun _ => rfl) (i_in (by omega) (by omega)) dX11_hand_38 (fun x_14 ex_14 lx_14 ux_14 => ?_)
      have cx_14 := congrArg Int32.toInt ex_14
      refine lv_if_le (tgt := 59) hx hb dX11_hand_39 (by decide) (fun c_15 => ?_) (fun c_15 => ?_)
      · skip
        have uc_15 := i_le (n := 0) (by decide) c_15
        refine lv_iconst (v := (-1)) hx hb dX11_hand_59 (by decide) ?_
        exact W.iret (v := (-1)) hx hb hr (fun t ht hW => ⟨⟨(-1), (σ, ρ_8), rfl, ⟨hB.2.1, hB.2.2, trivial⟩, (show TP D cA L T r σ ρ_8 t.heap from by rw [ht]; exact hB.1)⟩, hS.F ht⟩) hS.2.2 dX11_hand_60
      · skip
        have uc_15 := i_nle (n := 0) (by decide) c_15
        refine lv_aload hx hb dX11_hand_42 (lv_at hl 0 rfl) ?_
        refine lv_aload_n hx hb dX11_hand_44 rfl (lv_at hl 1 rfl) ?_
        refine t_gk hx hb hts hown hK hB mh0 th0 fq_11_3 hb_1 mw_2_210 dX11_hand_45 ?_
        refine t_gr hx hb hts hown hK hG hB mb_1 tb_1 fq_10_0 rfl mw_1_236 dX11_hand_48 (fun b_16 hb_16 mb_16 tb_16 => ?_)
        refine lv_iload_n hx hb dX11_hand_51 rfl (lv_at hl 3 rfl) ?_
        refine lv_iload_n hx hb dX11_hand_52 rfl (lv_at hl 4 rfl) ?_
        refine t_ci (va_runV (As := [.ref b_16, .int p2, .int p3]) (rest := []) ⟨hx, hb, hml, hown, hts⟩ (cy_X8_canCarry l D cA L T r hG hLA.1 σ ρ_8 hB.2.1 _ b_2 mb_2 tb_2 b_16 mb_16 tb_16 p2 p3 (by first | omega | decide) (by first | omega | decide) (by first | omega | decide) (by first | omega | decide)) (cV hts mv_X8_canCarry mw_4_198 rfl rfl ⟨Nat.le_of_ble_eq_true rfl, Nat.le_of_ble_eq_true rfl⟩) (pV hB.1 hK hN mb_2 tb_2 (show shp cA 8 _ _ _ = .inr (8, Fs8 _ _ _) from rfl) rfl) rfl rfl hl.1 rfl (lv_room (Nat.le_of_ble_eq_true rfl)) dX11_hand_53 ⟨Nat.le_of_ble_eq_true rfl, Nat.le_of_ble_eq_true rfl⟩) hLA hA hB hS (by decide) (fun x_19 σ_17 ρ_18 H locs hB fσ_17 pσ_17 hS => ?_)
        have qσ_17 := FR.nil fσ_17
        subst qσ_17
        obtain ⟨lx_19, ux_19⟩ := pσ_17
        refine lv_if_ne (tgt := 61) hx hb dX11_hand_56 (by decide) (fun c_20 => ?_) (fun c_20 => ?_)
        · skip
          have uc_20 := i_ne (n := 0) (by decide) c_20
          refine lv_aload_n hx hb dX11_hand_61 rfl (lv_at hl 1 rfl) ?_
          refine t_gr hx hb hts hown hK hG hB mh0 th0 fq_11_5 rfl mw_2_212 dX11_hand_62 (fun b_21 hb_21 mb_21 tb_21 => ?_)
          refine lv_aload hx hb dX11_hand_65 (lv_at hl 0 rfl) ?_
          refine t_cv (va_runV (As := [.ref b_2]) (rest := []) ⟨hx, hb, hml, hown, hts⟩ (cy_X5_keep l D cA L T r hG hLA.1 σ ρ_18 hB.2.1 _ b_21 mb_21 tb_21 b_2 mb_2 tb_2) (cV hts mv_X5_keep mw_4_104 rfl rfl ⟨Nat.le_of_ble_eq_true rfl, Nat.le_of_ble_eq_true rfl⟩) (pV hB.1 hK hN mb_21 tb_21 (show shp cA 5 _ _ _ = .inr (5, Fs5 _ _ _) from rfl) rfl) rfl rfl hl.1 rfl (lv_room (Nat.le_of_ble_eq_true rfl)) dX11_hand_67 ⟨Nat.le_of_ble_eq_true rfl, Nat.le_of_ble_eq_true rfl⟩) hLA hA hB hS (by decide) (fun σ_22 ρ_23 H locs hB fσ_22 pσ_22 hS => ?_)
          refine lv_aload hx hb dX11_hand_70 (lv_at hl 0 rfl) ?_
          refine t_gk hx hb hts hown hK hB mb_2 tb_2 fq_8_4 hb_11 mw_1_98 dX11_hand_72 ?_
          refine lv_iload_n hx hb dX11_hand_75 rfl (lv_at hl 2 rfl) ?_
          refine lv_iconst (v := 5) hx hb dX11_hand_76 (by decide) ?_
          refine lv_imul hx hb dX11_hand_77 ?_
          refine lv_topi (fun x_25 ex_25 => ?_)
          try have vx_25 := b_mul (rfl : p1.toInt = _) (by decide : (5 : Int32).toInt = 5) ex_25 (by omega) (by omega)
          refine lv_iload_n hx hb dX11_hand_78 rfl (lv_at hl 4 rfl) ?_
          refine lv_iadd hx hb dX11_hand_79 ?_
          refine lv_topi (fun x_26 ex_26 => ?_)
          try have vx_26 := b_add (rfl : x_25.toInt = _) (rfl : p3.toInt = _) ex_26 (by omega) (by omega)
          refine lv_dup2_11 hx hb dX11_hand_80 rfl rfl ?_
          refine t_ai hx hb hK hB mb_11 tb_11 ai_49 (fun _ => rfl) (i_in (by omega) (by omega)) dX11_hand_81 (fun x_27 ex_27 lx_27 ux_27 => ?_)
          have cx_27 := congrArg Int32.toInt ex_27
          refine lv_iconst (v := 1) hx hb dX11_hand_82 (by decide) ?_
          refine lv_isub hx hb dX11_hand_83 ?_
          refine lv_topi (fun x_28 ex_28 => ?_)
          try have vx_28 := b_sub (rfl : x_27.toInt = _) (by decide : (1 : Int32).toInt = 1) ex_28 (by omega) (by omega)
          refine t_si hx hb hK hLA hB hS mb_11 tb_11 ai_49 (i_in (by omega) (by omega)) (i_lo _) (i_hi _) (Or.inr (by decide)) dX11_hand_84 (fun H locs σ_29 eσ_29 hB hS => ?_)
          have k_30 : σ_29 b_11 x_26.toNatClampNeg = x_28 := by rw [eσ_29]; exact up2_same _ _ _ _
          refine lv_aload hx hb dX11_hand_85 (lv_at hl 0 rfl) ?_
          refine t_gk hx hb hts hown hK hB mb_2 tb_2 fq_8_4 hb_11 mw_1_98 dX11_hand_87 ?_
          refine lv_iload_n hx hb dX11_hand_90 rfl (lv_at hl 3 rfl) ?_
          refine lv_iconst (v := 5) hx hb dX11_hand_91 (by decide) ?_
          refine lv_imul hx hb dX11_hand_92 ?_
          refine lv_topi (fun x_31 ex_31 => ?_)
          try have vx_31 := b_mul (rfl : p2.toInt = _) (by decide : (5 : Int32).toInt = 5) ex_31 (by omega) (by omega)
          refine lv_iload_n hx hb dX11_hand_93 rfl (lv_at hl 4 rfl) ?_
          refine lv_iadd hx hb dX11_hand_94 ?_
          refine lv_topi (fun x_32 ex_32 => ?_)
          try have vx_32 := b_add (rfl : x_31.toInt = _) (rfl : p3.toInt = _) ex_32 (by omega) (by omega)
          refine lv_dup2_11 hx hb dX11_hand_95 rfl rfl ?_
          refine t_ai hx hb hK hB mb_11 tb_11 ai_49 (fun _ => rfl) (i_in (by omega) (by omega)) dX11_hand_96 (fun x_33 ex_33 lx_33 ux_33 => ?_)
          have cx_33 := congrArg Int32.toInt ex_33
          refine lv_iconst (v := 1) hx hb dX11_hand_97 (by decide) ?_
          refine lv_iadd hx hb dX11_hand_98 ?_
          refine lv_topi (fun x_34 ex_34 => ?_)
          try have vx_34 := b_add (rfl : x_33.toInt = _) (by decide : (1 : Int32).toInt = 1) ex_34 (by omega) (by omega)
          refine t_si hx hb hK hLA hB hS mb_11 tb_11 ai_49 (i_in (by omega) (by omega)) (i_lo _) (i_hi _) (Or.inr (by decide)) dX11_hand_99 (fun H locs σ_35 eσ_35 hB hS => ?_)
          have k_36 : σ_35 b_11 x_32.toNatClampNeg = x_34 := by rw [eσ_35]; exact up2_same _ _ _ _
          refine lv_aload hx hb dX11_hand_100 (lv_at hl 0 rfl) ?_
          refine t_gk hx hb hts hown hK hB mb_2 tb_2 fq_8_4 hb_11 mw_1_98 dX11_hand_102 ?_
          refine lv_iload_n hx hb dX11_hand_105 rfl (lv_at hl 3 rfl) ?_
          refine lv_iconst (v := 5) hx hb dX11_hand_106 (by decide) ?_
          refine lv_imul hx hb dX11_hand_107 ?_
          refine lv_topi (fun x_37 ex_37 => ?_)
          try have vx_37 := b_mul (rfl : p2.toInt = _) (by decide : (5 : Int32).toInt = 5) ex_37 (by omega) (by omega)
          refine lv_iload_n hx hb dX11_hand_108 rfl (lv_at hl 4 rfl) ?_
          refine lv_iadd hx hb dX11_hand_109 ?_
          refine lv_topi (fun x_38 ex_38 => ?_)
          try have vx_38 := b_add (rfl : x_37.toInt = _) (rfl : p3.toInt = _) ex_38 (by omega) (by omega)
          refine t_ai hx hb hK hB mb_11 tb_11 ai_49 (fun _ => rfl) (i_in (by omega) (by omega)) dX11_hand_110 (fun x_39 ex_39 lx_39 ux_39 => ?_)
          have cx_39 := congrArg Int32.toInt ex_39
          exact W.iret (v := x_39) hx hb hr (fun t ht hW => ⟨⟨x_39, (σ_35, ρ_23), rfl, ⟨hB.2.1, hB.2.2, trivial⟩, (show TP D cA L T r σ_35 ρ_23 t.heap from by rw [ht]; exact hB.1)⟩, hS.F ht⟩) hS.2.2 dX11_hand_111
        · skip
          have uc_20 := i_eq (n := 0) (by decide) c_20
          refine lv_iconst (v := (-1)) hx hb dX11_hand_59 (by decide) ?_
          exact W.iret (v := (-1)) hx hb hr (fun t ht hW => ⟨⟨(-1), (σ, ρ_18), rfl, ⟨hB.2.1, hB.2.2, trivial⟩, (show TP D cA L T r σ ρ_18 t.heap from by rw [ht]; exact hB.1)⟩, hS.F ht⟩) hS.2.2 dX11_hand_60
    · skip
      have uc_10 := i_eq (n := 0) (by decide) c_10
      refine lv_iconst (v := (-1)) hx hb dX11_hand_26 (by decide) ?_
      exact W.iret (v := (-1)) hx hb hr (fun t ht hW => ⟨⟨(-1), (σ, ρ_8), rfl, ⟨hB.2.1, hB.2.2, trivial⟩, (show TP D cA L T r σ ρ_8 t.heap from by rw [ht]; exact hB.1)⟩, hS.F ht⟩) hS.2.2 dX11_hand_27
theorem mw_4_204 : (.instanceMethod yX5_restore : Cond) ∈ wsA := wsA_t (List.mem_append_right _ (List.mem_append_right _ (List.mem_append_right _ (List.mem_append_left _ (List.mem_of_getElem? (l := tables_1_4) (i := 204) rfl))))) rfl
theorem mw_4_205 : (.selects RX5 yX5_restore yX5_restore : Cond) ∈ wsA := wsA_t (List.mem_append_right _ (List.mem_append_right _ (List.mem_append_right _ (List.mem_append_left _ (List.mem_of_getElem? (l := tables_1_4) (i := 205) rfl))))) rfl
theorem mw_4_206 : (.code yX5_restore cX5_restore 2 (some .boolean) : Cond) ∈ wsA := wsA_t (List.mem_append_right _ (List.mem_append_right _ (List.mem_append_right _ (List.mem_append_left _ (List.mem_of_getElem? (l := tables_1_4) (i := 206) rfl))))) rfl
theorem mw_4_203 : (.methodLink RX11 233 yX5_restore : Cond) ∈ wsA := wsA_t (List.mem_append_right _ (List.mem_append_right _ (List.mem_append_right _ (List.mem_append_left _ (List.mem_of_getElem? (l := tables_1_4) (i := 203) rfl))))) rfl
theorem mw_2_50 : (.fieldLink RX11 237 "HillBends$History" "size" "I" : Cond) ∈ wsA := wsA_t (List.mem_append_right _ (List.mem_append_left _ (List.mem_of_getElem? (l := tables_1_2) (i := 50) rfl))) rfl
theorem dX11_undo_0 : decode cX11_undo 0 = .ok (.aload_n 0, 1) := by decide +kernel
theorem dX11_undo_1 : decode cX11_undo 1 = .ok (.getfield 43, 3) := by decide +kernel
theorem dX11_undo_4 : decode cX11_undo 4 = .ok (.aload_n 0, 1) := by decide +kernel
theorem dX11_undo_5 : decode cX11_undo 5 = .ok (.getfield 32, 3) := by decide +kernel
theorem dX11_undo_8 : decode cX11_undo 8 = .ok (.getfield 121, 3) := by decide +kernel
theorem dX11_undo_11 : decode cX11_undo 11 = .ok (.invokevirtual 233, 3) := by decide +kernel
theorem dX11_undo_14 : decode cX11_undo 14 = .ok (.ifCond .eq 13, 3) := by decide +kernel
theorem dX11_undo_27 : decode cX11_undo 27 = .ok (.iconst (-1), 1) := by decide +kernel
theorem dX11_undo_28 : decode cX11_undo 28 = .ok (.ireturn, 1) := by decide +kernel
theorem dX11_undo_17 : decode cX11_undo 17 = .ok (.aload_n 0, 1) := by decide +kernel
theorem dX11_undo_18 : decode cX11_undo 18 = .ok (.getfield 43, 3) := by decide +kernel
theorem dX11_undo_21 : decode cX11_undo 21 = .ok (.getfield 237, 3) := by decide +kernel
theorem dX11_undo_24 : decode cX11_undo 24 = .ok (.goto 4, 3) := by decide +kernel
theorem mv_X5_restore : MV RX5 yX5_restore cX5_restore 2 (some .boolean) 1 := ⟨mw_4_204, mw_4_205, mw_1_7, mw_4_206, ⟨rfl, by decide, by decide, by decide +kernel⟩⟩
set_option maxHeartbeats 4000000 in
set_option maxRecDepth 100000 in
theorem cy_X11_undo (l : Launch) (D : va_G) (cA : Nat → ClassId) (L : List Nat) (T : Nat → Nat) (r : Rg) (hG : GR L T r) (hL : L.Nodup) (σ : Sg) (ρ : Lg) (hW : WT L ry T σ) (sz : Nat) (h0 : Nat) (mh0 : h0 ∈ L) (th0 : T h0 = 11) : Met l yX11_undo (.code yX11_undo cX11_undo 1 (some .int) :: wsA) ({ frames := 3, cells := 0, slots := 0, locals := 142 }) (PR D cA L T r σ ρ sz [.ref h0]) (QI D cA L T r ry [(5, 1), (5, 2), (8, 6), (8, 7), (45, 1000), (46, 1000), (47, 1000), (48, 1000), (49, 1000), (50, 1000)] σ sz (fun x σ1 => True)) 0 0 (dm L sz) := by
  refine Met.ofW (cc := cX11_undo) (maxL := 1) (ret := (some .int)) (by decide) rfl ?_
  intro p e s m args below meth c s₁ B hml hv
  obtain ⟨rfl, hsz, hP, hK, hN⟩ := hv
  have hx := B.exec
  have hb := B.bytes
  have hr := B.returns
  have hts : ∀ w ∈ wsA, w.before _ s = true := fun w h => atoms_spec (ws := .code yX11_undo cX11_undo 1 (some .int) :: wsA) B.pre w (List.mem_cons_of_mem _ h)
  have hown : s.vm.findClass RX11 = some m.cls := findClass_of_methodNamed B.named
  subst hsz
  have hLA : LA (dm L s.heap.size) L := ⟨hL, fun a h => Or.inl h⟩
  have hA : ∀ q : Nat, s.heap.size ≤ q → dm L s.heap.size q := fun q h => Or.inr h
  have hS : va_S (dm L s.heap.size) s.heap s.heap [] := va_S.rf
  have hB : TS D cA L T r ry [(5, 1), (5, 2), (8, 6), (8, 7), (45, 1000), (46, 1000), (47, 1000), (48, 1000), (49, 1000), (50, 1000)] σ σ ρ s.heap := ⟨hP, hW, FR.rf⟩
  have hl := lv_entry ([.ref h0]) (n := 1) (Nat.le_of_ble_eq_true rfl)
  rw [lg_entry_eq]
  generalize (lg_sl ([.ref h0]) ++ List.replicate (1 - (lg_sl ([.ref h0])).length) Slot.unset).toArray = ls at hl ⊢
  have hl : lv_has ls 1 [(0, .ref h0)] := hl
  refine lv_aload_n hx hb dX11_undo_0 rfl (lv_at hl 0 rfl) ?_
  refine t_gr hx hb hts hown hK hG hB mh0 th0 fq_11_5 rfl mw_2_212 dX11_undo_1 (fun b_1 hb_1 mb_1 tb_1 => ?_)
  refine lv_aload_n hx hb dX11_undo_4 rfl (lv_at hl 0 rfl) ?_
  refine t_gr hx hb hts hown hK hG hB mh0 th0 fq_11_3 rfl mw_2_210 dX11_undo_5 (fun b_2 hb_2 mb_2 tb_2 => ?_)
  refine t_gr hx hb hts hown hK hG hB mb_2 tb_2 fq_10_1 rfl mw_1_239 dX11_undo_8 (fun b_3 hb_3 mb_3 tb_3 => ?_)
  refine t_ci (va_runV (As := [.ref b_3]) (rest := []) ⟨hx, hb, hml, hown, hts⟩ (cy_X5_restore l D cA L T r hG hLA.1 σ ρ hB.2.1 _ b_1 mb_1 tb_1 b_3 mb_3 tb_3) (cV hts mv_X5_restore mw_4_203 rfl rfl ⟨Nat.le_of_ble_eq_true rfl, Nat.le_of_ble_eq_true rfl⟩) (pV hB.1 hK hN mb_1 tb_1 (show shp cA 5 _ _ _ = .inr (5, Fs5 _ _ _) from rfl) rfl) rfl rfl hl.1 rfl (lv_room (Nat.le_of_ble_eq_true rfl)) dX11_undo_11 ⟨Nat.le_of_ble_eq_true rfl, Nat.le_of_ble_eq_true rfl⟩) hLA hA hB hS (by decide) (fun x_6 σ_4 ρ_5 H locs hB fσ_4 pσ_4 hS => ?_)
  obtain ⟨lx_6, ux_6⟩ := pσ_4
  refine lv_if_eq (tgt := 27) hx hb dX11_undo_14 (by decide) (fun c_7 => ?_) (fun c_7 => ?_)
  · skip
    have uc_7 := i_eq (n := 0) (by decide) c_7
    refine lv_iconst (v := (-1)) hx hb dX11_undo_27 (by decide) ?_
    exact W.iret (v := (-1)) hx hb hr (fun t ht hW => ⟨⟨(-1), (σ_4, ρ_5), rfl, ⟨hB.2.1, hB.2.2, trivial⟩, (show TP D cA L T r σ_4 ρ_5 t.heap from by rw [ht]; exact hB.1)⟩, hS.F ht⟩) hS.2.2 dX11_undo_28
  · skip
    have uc_7 := i_ne (n := 0) (by decide) c_7
    refine lv_aload_n hx hb dX11_undo_17 rfl (lv_at hl 0 rfl) ?_
    refine t_gk hx hb hts hown hK hB mh0 th0 fq_11_5 hb_1 mw_2_212 dX11_undo_18 ?_
    refine t_gi hx hb hts hown hK hB mb_1 tb_1 fi_5_1 rfl mw_2_50 dX11_undo_21 (fun x_8 ex_8 lx_8 ux_8 => ?_)
    have cx_8 := congrArg Int32.toInt ex_8
    refine lv_goto (tgt := 28) hx hb dX11_undo_24 (by decide) ?_
    exact W.iret (v := x_8) hx hb hr (fun t ht hW => ⟨⟨x_8, (σ_4, ρ_5), rfl, ⟨hB.2.1, hB.2.2, trivial⟩, (show TP D cA L T r σ_4 ρ_5 t.heap from by rw [ht]; exact hB.1)⟩, hS.F ht⟩) hS.2.2 dX11_undo_28
theorem mw_1_164 : (.fieldLink RX11 178 "HillBends$Hill" "told" "Z" : Cond) ∈ wsA := wsA_t (List.mem_append_left _ (List.mem_of_getElem? (l := tables_1_1) (i := 164) rfl)) rfl
theorem mw_5_103 : (.instanceMethod yX8_wealthOf : Cond) ∈ wsA := wsA_t (List.mem_append_right _ (List.mem_append_right _ (List.mem_append_right _ (List.mem_append_right _ (List.mem_append_left _ (List.mem_of_getElem? (l := tables_1_5) (i := 103) rfl)))))) rfl
theorem mw_5_104 : (.selects RX8 yX8_wealthOf yX8_wealthOf : Cond) ∈ wsA := wsA_t (List.mem_append_right _ (List.mem_append_right _ (List.mem_append_right _ (List.mem_append_right _ (List.mem_append_left _ (List.mem_of_getElem? (l := tables_1_5) (i := 104) rfl)))))) rfl
theorem mw_5_105 : (.code yX8_wealthOf cX8_wealthOf 5 (some .int) : Cond) ∈ wsA := wsA_t (List.mem_append_right _ (List.mem_append_right _ (List.mem_append_right _ (List.mem_append_right _ (List.mem_append_left _ (List.mem_of_getElem? (l := tables_1_5) (i := 105) rfl)))))) rfl
theorem mw_5_102 : (.methodLink RX11 293 yX8_wealthOf : Cond) ∈ wsA := wsA_t (List.mem_append_right _ (List.mem_append_right _ (List.mem_append_right _ (List.mem_append_right _ (List.mem_append_left _ (List.mem_of_getElem? (l := tables_1_5) (i := 102) rfl)))))) rfl
theorem dX11_rich_0 : decode cX11_rich 0 = .ok (.aload_n 0, 1) := by decide +kernel
theorem dX11_rich_1 : decode cX11_rich 1 = .ok (.getfield 32, 3) := by decide +kernel
theorem dX11_rich_4 : decode cX11_rich 4 = .ok (.getfield 102, 3) := by decide +kernel
theorem dX11_rich_7 : decode cX11_rich 7 = .ok (.getfield 178, 3) := by decide +kernel
theorem dX11_rich_10 : decode cX11_rich 10 = .ok (.ifCond .eq 12, 3) := by decide +kernel
theorem dX11_rich_22 : decode cX11_rich 22 = .ok (.iconst (-1), 1) := by decide +kernel
theorem dX11_rich_23 : decode cX11_rich 23 = .ok (.ireturn, 1) := by decide +kernel
theorem dX11_rich_13 : decode cX11_rich 13 = .ok (.iload_n 1, 1) := by decide +kernel
theorem dX11_rich_14 : decode cX11_rich 14 = .ok (.ifCond .lt 8, 3) := by decide +kernel
theorem dX11_rich_17 : decode cX11_rich 17 = .ok (.iload_n 1, 1) := by decide +kernel
theorem dX11_rich_18 : decode cX11_rich 18 = .ok (.iconst 1, 1) := by decide +kernel
theorem dX11_rich_19 : decode cX11_rich 19 = .ok (.if_icmp .le 5, 3) := by decide +kernel
theorem dX11_rich_24 : decode cX11_rich 24 = .ok (.bipush (-2), 2) := by decide +kernel
theorem dX11_rich_26 : decode cX11_rich 26 = .ok (.istore_n 2, 1) := by decide +kernel
theorem dX11_rich_27 : decode cX11_rich 27 = .ok (.bipush (-2), 2) := by decide +kernel
theorem dX11_rich_29 : decode cX11_rich 29 = .ok (.istore_n 3, 1) := by decide +kernel
theorem dX11_rich_30 : decode cX11_rich 30 = .ok (.iconst 0, 1) := by decide +kernel
theorem dX11_rich_31 : decode cX11_rich 31 = .ok (.istore 4, 2) := by decide +kernel
theorem dX11_rich_33 : decode cX11_rich 33 = .ok (.iload 4, 2) := by decide +kernel
theorem dX11_rich_35 : decode cX11_rich 35 = .ok (.aload_n 0, 1) := by decide +kernel
theorem dX11_rich_36 : decode cX11_rich 36 = .ok (.getfield 32, 3) := by decide +kernel
theorem dX11_rich_39 : decode cX11_rich 39 = .ok (.getfield 102, 3) := by decide +kernel
theorem dX11_rich_42 : decode cX11_rich 42 = .ok (.getfield 281, 3) := by decide +kernel
theorem dX11_rich_45 : decode cX11_rich 45 = .ok (.if_icmp .ge 42, 3) := by decide +kernel
theorem dX11_rich_87 : decode cX11_rich 87 = .ok (.iload_n 1, 1) := by decide +kernel
theorem dX11_rich_88 : decode cX11_rich 88 = .ok (.ifCond .ne 7, 3) := by decide +kernel
theorem dX11_rich_95 : decode cX11_rich 95 = .ok (.iload_n 3, 1) := by decide +kernel
theorem dX11_rich_96 : decode cX11_rich 96 = .ok (.ireturn, 1) := by decide +kernel
theorem dX11_rich_91 : decode cX11_rich 91 = .ok (.iload_n 2, 1) := by decide +kernel
theorem dX11_rich_92 : decode cX11_rich 92 = .ok (.goto 4, 3) := by decide +kernel
theorem dX11_rich_48 : decode cX11_rich 48 = .ok (.aload_n 0, 1) := by decide +kernel
theorem dX11_rich_49 : decode cX11_rich 49 = .ok (.getfield 32, 3) := by decide +kernel
theorem dX11_rich_52 : decode cX11_rich 52 = .ok (.getfield 121, 3) := by decide +kernel
theorem dX11_rich_55 : decode cX11_rich 55 = .ok (.aload_n 0, 1) := by decide +kernel
theorem dX11_rich_56 : decode cX11_rich 56 = .ok (.getfield 32, 3) := by decide +kernel
theorem dX11_rich_59 : decode cX11_rich 59 = .ok (.getfield 102, 3) := by decide +kernel
theorem dX11_rich_62 : decode cX11_rich 62 = .ok (.iload 4, 2) := by decide +kernel
theorem dX11_rich_64 : decode cX11_rich 64 = .ok (.invokevirtual 293, 3) := by decide +kernel
theorem dX11_rich_67 : decode cX11_rich 67 = .ok (.istore 5, 2) := by decide +kernel
theorem dX11_rich_69 : decode cX11_rich 69 = .ok (.iload 5, 2) := by decide +kernel
theorem dX11_rich_71 : decode cX11_rich 71 = .ok (.iload_n 3, 1) := by decide +kernel
theorem dX11_rich_72 : decode cX11_rich 72 = .ok (.if_icmp .le 9, 3) := by decide +kernel
theorem dX11_rich_81 : decode cX11_rich 81 = .ok (.iinc 4 1, 3) := by decide +kernel
theorem dX11_rich_84 : decode cX11_rich 84 = .ok (.goto (-51), 3) := by decide +kernel
theorem dX11_rich_75 : decode cX11_rich 75 = .ok (.iload 5, 2) := by decide +kernel
theorem dX11_rich_77 : decode cX11_rich 77 = .ok (.istore_n 3, 1) := by decide +kernel
theorem dX11_rich_78 : decode cX11_rich 78 = .ok (.iload 4, 2) := by decide +kernel
theorem dX11_rich_80 : decode cX11_rich 80 = .ok (.istore_n 2, 1) := by decide +kernel
theorem mv_X8_wealthOf : MV RX8 yX8_wealthOf cX8_wealthOf 5 (some .int) 2 := ⟨mw_5_103, mw_5_104, mw_1_5, mw_5_105, ⟨rfl, by decide, by decide, by decide +kernel⟩⟩
set_option maxHeartbeats 4000000 in
set_option maxRecDepth 100000 in
theorem cy_X11_rich (l : Launch) (D : va_G) (cA : Nat → ClassId) (L : List Nat) (T : Nat → Nat) (r : Rg) (hG : GR L T r) (hL : L.Nodup) (σ : Sg) (ρ : Lg) (hW : WT L ry T σ) (sz : Nat) (h0 : Nat) (mh0 : h0 ∈ L) (th0 : T h0 = 11) (p1 : Int32) : Met l yX11_rich (.code yX11_rich cX11_rich 6 (some .int) :: wsA) ({ frames := 1, cells := 0, slots := 0, locals := 24 }) (PR D cA L T r σ ρ sz [.ref h0, .int p1]) (QI D cA L T r ry ([] : List (Nat × Nat)) σ sz (fun x σ1 => True)) 0 0 (dm L sz) := by
  refine Met.ofW (cc := cX11_rich) (maxL := 6) (ret := (some .int)) (by decide) rfl ?_
  intro p e s m args below meth c s₁ B hml hv
  obtain ⟨rfl, hsz, hP, hK, hN⟩ := hv
  have hx := B.exec
  have hb := B.bytes
  have hr := B.returns
  have hts : ∀ w ∈ wsA, w.before _ s = true := fun w h => atoms_spec (ws := .code yX11_rich cX11_rich 6 (some .int) :: wsA) B.pre w (List.mem_cons_of_mem _ h)
  have hown : s.vm.findClass RX11 = some m.cls := findClass_of_methodNamed B.named
  subst hsz
  have hLA : LA (dm L s.heap.size) L := ⟨hL, fun a h => Or.inl h⟩
  have hA : ∀ q : Nat, s.heap.size ≤ q → dm L s.heap.size q := fun q h => Or.inr h
  have hS : va_S (dm L s.heap.size) s.heap s.heap [] := va_S.rf
  have hB : TS D cA L T r ry ([] : List (Nat × Nat)) σ σ ρ s.heap := ⟨hP, hW, FR.rf⟩
  have hl := lv_entry ([.ref h0, .int p1]) (n := 6) (Nat.le_of_ble_eq_true rfl)
  rw [lg_entry_eq]
  generalize (lg_sl ([.ref h0, .int p1]) ++ List.replicate (6 - (lg_sl ([.ref h0, .int p1])).length) Slot.unset).toArray = ls at hl ⊢
  have hl : lv_has ls 6 [(0, .ref h0), (1, .int p1)] := hl
  refine lv_aload_n hx hb dX11_rich_0 rfl (lv_at hl 0 rfl) ?_
  refine t_gr hx hb hts hown hK hG hB mh0 th0 fq_11_3 rfl mw_2_210 dX11_rich_1 (fun b_1 hb_1 mb_1 tb_1 => ?_)
  refine t_gr hx hb hts hown hK hG hB mb_1 tb_1 fq_10_0 rfl mw_1_236 dX11_rich_4 (fun b_2 hb_2 mb_2 tb_2 => ?_)
  refine t_gi hx hb hts hown hK hB mb_2 tb_2 fi_3_6 rfl mw_1_164 dX11_rich_7 (fun x_3 ex_3 lx_3 ux_3 => ?_)
  have cx_3 := congrArg Int32.toInt ex_3
  refine lv_if_eq (tgt := 22) hx hb dX11_rich_10 (by decide) (fun c_4 => ?_) (fun c_4 => ?_)
  · skip
    have uc_4 := i_eq (n := 0) (by decide) c_4
    refine lv_iconst (v := (-1)) hx hb dX11_rich_22 (by decide) ?_
    exact W.iret (v := (-1)) hx hb hr (fun t ht hW => ⟨⟨(-1), (σ, ρ), rfl, ⟨hB.2.1, hB.2.2, trivial⟩, (show TP D cA L T r σ ρ t.heap from by rw [ht]; exact hB.1)⟩, hS.F ht⟩) hS.2.2 dX11_rich_23
  · skip
    have uc_4 := i_ne (n := 0) (by decide) c_4
    refine lv_iload_n hx hb dX11_rich_13 rfl (lv_at hl 1 rfl) ?_
    refine lv_if_lt (tgt := 22) hx hb dX11_rich_14 (by decide) (fun c_5 => ?_) (fun c_5 => ?_)
    · skip
      have uc_5 := i_lt (n := 0) (by decide) c_5
      refine lv_iconst (v := (-1)) hx hb dX11_rich_22 (by decide) ?_
      exact W.iret (v := (-1)) hx hb hr (fun t ht hW => ⟨⟨(-1), (σ, ρ), rfl, ⟨hB.2.1, hB.2.2, trivial⟩, (show TP D cA L T r σ ρ t.heap from by rw [ht]; exact hB.1)⟩, hS.F ht⟩) hS.2.2 dX11_rich_23
    · skip
      have uc_5 := i_nlt (n := 0) (by decide) c_5
      refine lv_iload_n hx hb dX11_rich_17 rfl (lv_at hl 1 rfl) ?_
      refine lv_iconst (v := 1) hx hb dX11_rich_18 (by decide) ?_
      refine lv_icmp_le (tgt := 24) hx hb dX11_rich_19 (by decide) (fun c_6 => ?_) (fun c_6 => ?_)
      · skip
        have uc_6 := i_le (n := 1) (by decide) c_6
        refine lv_bipush (v := (-2)) hx hb dX11_rich_24 (by decide) ?_
        refine lv_istore_n (lv' := [(2, .int (-2)), (0, .ref h0), (1, .int p1)]) hx hb dX11_rich_26 rfl hl (by decide) rfl (fun ls hl => ?_)
        refine lv_bipush (v := (-2)) hx hb dX11_rich_27 (by decide) ?_
        refine lv_istore_n (lv' := [(3, .int (-2)), (2, .int (-2)), (0, .ref h0), (1, .int p1)]) hx hb dX11_rich_29 rfl hl (by decide) rfl (fun ls hl => ?_)
        refine lv_iconst (v := 0) hx hb dX11_rich_30 (by decide) ?_
        refine lv_istore (lv' := [(4, .int 0), (3, .int (-2)), (2, .int (-2)), (0, .ref h0), (1, .int p1)]) hx hb dX11_rich_31 hl (by decide) rfl (fun ls hl => ?_)
        refine w_loop (α := Int32 × Int32 × Int32 × Sg × Lg) (fun (i_7, i_8, i_9, σ_10, ρ_11) H locs ls => 0 ≤ i_9.toInt ∧ i_9.toInt ≤ 4 ∧ σ_10 b_2 6 = x_3 ∧ TS D cA L T r ry ([] : List (Nat × Nat)) σ σ_10 ρ_11 H ∧ va_S (dm L s.heap.size) s.heap H locs ∧ lv_has ls 6 [(4, .int i_9), (3, .int i_8), (2, .int i_7), (0, .ref h0), (1, .int p1)]) (fun (i_7, i_8, i_9, σ_10, ρ_11) => (4 - i_9.toInt).toNat) ?_ ⟨(-2), (-2), 0, σ, ρ⟩ ⟨(by decide), (by decide), ex_3.symm, hB, hS, lv_sub hl [0, 1, 2, 3, 4] rfl⟩
        rintro ⟨i_7, i_8, i_9, σ_10, ρ_11⟩ H locs ls ⟨li_9, ui_9, k_13, hB, hS, hl⟩ ih_12
        refine lv_iload hx hb dX11_rich_33 (lv_at hl 0 rfl) ?_
        refine lv_aload_n hx hb dX11_rich_35 rfl (lv_at hl 3 rfl) ?_
        refine t_gk hx hb hts hown hK hB mh0 th0 fq_11_3 hb_1 mw_2_210 dX11_rich_36 ?_
        refine t_gk hx hb hts hown hK hB mb_1 tb_1 fq_10_0 hb_2 mw_1_236 dX11_rich_39 ?_
        refine t_gi hx hb hts hown hK hB mb_2 tb_2 fi_3_10 rfl mw_1_189 dX11_rich_42 (fun x_14 ex_14 lx_14 ux_14 => ?_)
        have cx_14 := congrArg Int32.toInt ex_14
        refine lv_icmp_ge (tgt := 87) hx hb dX11_rich_45 (by decide) (fun c_15 => ?_) (fun c_15 => ?_)
        · skip
          have uc_15 := j_le c_15
          refine lv_iload_n hx hb dX11_rich_87 rfl (lv_at hl 4 rfl) ?_
          refine lv_if_ne (tgt := 95) hx hb dX11_rich_88 (by decide) (fun c_16 => ?_) (fun c_16 => ?_)
          · skip
            have uc_16 := i_ne (n := 0) (by decide) c_16
            refine lv_iload_n hx hb dX11_rich_95 rfl (lv_at hl 1 rfl) ?_
            exact W.iret (v := i_8) hx hb hr (fun t ht hW => ⟨⟨i_8, (σ_10, ρ_11), rfl, ⟨hB.2.1, hB.2.2, trivial⟩, (show TP D cA L T r σ_10 ρ_11 t.heap from by rw [ht]; exact hB.1)⟩, hS.F ht⟩) hS.2.2 dX11_rich_96
          · skip
            have uc_16 := i_eq (n := 0) (by decide) c_16
            refine lv_iload_n hx hb dX11_rich_91 rfl (lv_at hl 2 rfl) ?_
            refine lv_goto (tgt := 96) hx hb dX11_rich_92 (by decide) ?_
            exact W.iret (v := i_7) hx hb hr (fun t ht hW => ⟨⟨i_7, (σ_10, ρ_11), rfl, ⟨hB.2.1, hB.2.2, trivial⟩, (show TP D cA L T r σ_10 ρ_11 t.heap from by rw [ht]; exact hB.1)⟩, hS.F ht⟩) hS.2.2 dX11_rich_96
        · skip
          have uc_15 := j_nle c_15
          refine lv_aload_n hx hb dX11_rich_48 rfl (lv_at hl 3 rfl) ?_
          refine t_gk hx hb hts hown hK hB mh0 th0 fq_11_3 hb_1 mw_2_210 dX11_rich_49 ?_
          refine t_gr hx hb hts hown hK hG hB mb_1 tb_1 fq_10_1 rfl mw_1_239 dX11_rich_52 (fun b_17 hb_17 mb_17 tb_17 => ?_)
          refine lv_aload_n hx hb dX11_rich_55 rfl (lv_at hl 3 rfl) ?_
          refine t_gk hx hb hts hown hK hB mh0 th0 fq_11_3 hb_1 mw_2_210 dX11_rich_56 ?_
          refine t_gk hx hb hts hown hK hB mb_1 tb_1 fq_10_0 hb_2 mw_1_236 dX11_rich_59 ?_
          refine lv_iload hx hb dX11_rich_62 (lv_at hl 0 rfl) ?_
          refine t_ci (va_runV (As := [.ref b_2, .int i_9]) (rest := []) ⟨hx, hb, hml, hown, hts⟩ (cy_X8_wealthOf l D cA L T r hG hLA.1 σ_10 ρ_11 hB.2.1 _ b_17 mb_17 tb_17 b_2 mb_2 tb_2 i_9 (by first | omega | decide) (by first | omega | decide)) (cV hts mv_X8_wealthOf mw_5_102 rfl rfl ⟨Nat.le_of_ble_eq_true rfl, Nat.le_of_ble_eq_true rfl⟩) (pV hB.1 hK hN mb_17 tb_17 (show shp cA 8 _ _ _ = .inr (8, Fs8 _ _ _) from rfl) rfl) rfl rfl hl.1 rfl (lv_room (Nat.le_of_ble_eq_true rfl)) dX11_rich_64 ⟨Nat.le_of_ble_eq_true rfl, Nat.le_of_ble_eq_true rfl⟩) hLA hA hB hS (by decide) (fun x_20 σ_18 ρ_19 H locs hB fσ_18 pσ_18 hS => ?_)
          have qσ_18 := FR.nil fσ_18
          subst qσ_18
          refine lv_istore (lv' := [(5, .int x_20), (4, .int i_9), (3, .int i_8), (2, .int i_7), (0, .ref h0), (1, .int p1)]) hx hb dX11_rich_67 hl (by decide) rfl (fun ls hl => ?_)
          refine lv_iload hx hb dX11_rich_69 (lv_at hl 0 rfl) ?_
          refine lv_iload_n hx hb dX11_rich_71 rfl (lv_at hl 2 rfl) ?_
          refine lv_icmp_le (tgt := 81) hx hb dX11_rich_72 (by decide) (fun c_21 => ?_) (fun c_21 => ?_)
          · skip
            have uc_21 := j_le c_21
            obtain ⟨x_22, ex_22⟩ : ∃ y : Int32, y = i_9 + 1 := ⟨_, rfl⟩
            have vx_22 := b_add (rfl : i_9.toInt = _) (by decide : (1 : Int32).toInt = 1) ex_22 (by omega) (by omega)
            refine lv_iinc (v := x_22) (lv' := [(4, .int x_22), (5, .int x_20), (3, .int i_8), (2, .int i_7), (0, .ref h0), (1, .int p1)]) hx hb dX11_rich_81 hl (k := 1) rfl (by rw [ex_22]; rfl) (by decide) rfl (fun ls hl => ?_)
            refine lv_goto (tgt := 33) hx hb dX11_rich_84 (by decide) ?_
            exact ih_12 ⟨i_7, i_8, x_22, σ_10, ρ_19⟩ _ _ _ ⟨(by omega), (by omega), k_13, hB, hS, lv_sub hl [0, 2, 3, 4, 5] rfl⟩ (by show (4 - x_22.toInt).toNat < (4 - i_9.toInt).toNat; omega)
          · skip
            have uc_21 := j_nle c_21
            refine lv_iload hx hb dX11_rich_75 (lv_at hl 0 rfl) ?_
            refine lv_istore_n (lv' := [(3, .int x_20), (5, .int x_20), (4, .int i_9), (2, .int i_7), (0, .ref h0), (1, .int p1)]) hx hb dX11_rich_77 rfl hl (by decide) rfl (fun ls hl => ?_)
            refine lv_iload hx hb dX11_rich_78 (lv_at hl 2 rfl) ?_
            refine lv_istore_n (lv' := [(2, .int i_9), (3, .int x_20), (5, .int x_20), (4, .int i_9), (0, .ref h0), (1, .int p1)]) hx hb dX11_rich_80 rfl hl (by decide) rfl (fun ls hl => ?_)
            obtain ⟨x_23, ex_23⟩ : ∃ y : Int32, y = i_9 + 1 := ⟨_, rfl⟩
            have vx_23 := b_add (rfl : i_9.toInt = _) (by decide : (1 : Int32).toInt = 1) ex_23 (by omega) (by omega)
            refine lv_iinc (v := x_23) (lv' := [(4, .int x_23), (2, .int i_9), (3, .int x_20), (5, .int x_20), (0, .ref h0), (1, .int p1)]) hx hb dX11_rich_81 hl (k := 3) rfl (by rw [ex_23]; rfl) (by decide) rfl (fun ls hl => ?_)
            refine lv_goto (tgt := 33) hx hb dX11_rich_84 (by decide) ?_
            exact ih_12 ⟨i_9, x_20, x_23, σ_10, ρ_19⟩ _ _ _ ⟨(by omega), (by omega), k_13, hB, hS, lv_sub hl [0, 2, 1, 4, 5] rfl⟩ (by show (4 - x_23.toInt).toNat < (4 - i_9.toInt).toNat; omega)
      · skip
        have uc_6 := i_nle (n := 1) (by decide) c_6
        refine lv_iconst (v := (-1)) hx hb dX11_rich_22 (by decide) ?_
        exact W.iret (v := (-1)) hx hb hr (fun t ht hW => ⟨⟨(-1), (σ, ρ), rfl, ⟨hB.2.1, hB.2.2, trivial⟩, (show TP D cA L T r σ ρ t.heap from by rw [ht]; exact hB.1)⟩, hS.F ht⟩) hS.2.2 dX11_rich_23
theorem mw_2_1 : (.fieldLink RX11 296 "HillBends$World" "leaves" "[I" : Cond) ∈ wsA := wsA_t (List.mem_append_right _ (List.mem_append_left _ (List.mem_of_getElem? (l := tables_1_2) (i := 1) rfl))) rfl
theorem dX11_leaves_0 : decode cX11_leaves 0 = .ok (.aload_n 0, 1) := by decide +kernel
theorem dX11_leaves_1 : decode cX11_leaves 1 = .ok (.iload_n 1, 1) := by decide +kernel
theorem dX11_leaves_2 : decode cX11_leaves 2 = .ok (.invokevirtual 166, 3) := by decide +kernel
theorem dX11_leaves_5 : decode cX11_leaves 5 = .ok (.ifCond .eq 13, 3) := by decide +kernel
theorem dX11_leaves_18 : decode cX11_leaves 18 = .ok (.iconst (-1), 1) := by decide +kernel
theorem dX11_leaves_19 : decode cX11_leaves 19 = .ok (.ireturn, 1) := by decide +kernel
theorem dX11_leaves_8 : decode cX11_leaves 8 = .ok (.iload_n 2, 1) := by decide +kernel
theorem dX11_leaves_9 : decode cX11_leaves 9 = .ok (.ifCond .lt 9, 3) := by decide +kernel
theorem dX11_leaves_12 : decode cX11_leaves 12 = .ok (.iload_n 2, 1) := by decide +kernel
theorem dX11_leaves_13 : decode cX11_leaves 13 = .ok (.bipush 9, 2) := by decide +kernel
theorem dX11_leaves_15 : decode cX11_leaves 15 = .ok (.if_icmp .le 5, 3) := by decide +kernel
theorem dX11_leaves_20 : decode cX11_leaves 20 = .ok (.aload_n 0, 1) := by decide +kernel
theorem dX11_leaves_21 : decode cX11_leaves 21 = .ok (.getfield 32, 3) := by decide +kernel
theorem dX11_leaves_24 : decode cX11_leaves 24 = .ok (.getfield 296, 3) := by decide +kernel
theorem dX11_leaves_27 : decode cX11_leaves 27 = .ok (.iload_n 1, 1) := by decide +kernel
theorem dX11_leaves_28 : decode cX11_leaves 28 = .ok (.iaload, 1) := by decide +kernel
theorem dX11_leaves_29 : decode cX11_leaves 29 = .ok (.istore_n 3, 1) := by decide +kernel
theorem dX11_leaves_30 : decode cX11_leaves 30 = .ok (.aload_n 0, 1) := by decide +kernel
theorem dX11_leaves_31 : decode cX11_leaves 31 = .ok (.getfield 32, 3) := by decide +kernel
theorem dX11_leaves_34 : decode cX11_leaves 34 = .ok (.getfield 296, 3) := by decide +kernel
theorem dX11_leaves_37 : decode cX11_leaves 37 = .ok (.iload_n 1, 1) := by decide +kernel
theorem dX11_leaves_38 : decode cX11_leaves 38 = .ok (.iload_n 2, 1) := by decide +kernel
theorem dX11_leaves_39 : decode cX11_leaves 39 = .ok (.iastore, 1) := by decide +kernel
theorem dX11_leaves_40 : decode cX11_leaves 40 = .ok (.iload_n 3, 1) := by decide +kernel
theorem dX11_leaves_41 : decode cX11_leaves 41 = .ok (.ireturn, 1) := by decide +kernel
set_option maxHeartbeats 4000000 in
set_option maxRecDepth 100000 in
theorem cy_X11_leaves (l : Launch) (D : va_G) (cA : Nat → ClassId) (L : List Nat) (T : Nat → Nat) (r : Rg) (hG : GR L T r) (hL : L.Nodup) (σ : Sg) (ρ : Lg) (hW : WT L ry T σ) (sz : Nat) (h0 : Nat) (mh0 : h0 ∈ L) (th0 : T h0 = 11) (p1 : Int32) (p2 : Int32) : Met l yX11_leaves (.code yX11_leaves cX11_leaves 4 (some .int) :: wsA) ({ frames := 1, cells := 0, slots := 0, locals := 21 }) (PR D cA L T r σ ρ sz [.ref h0, .int p1, .int p2]) (QI D cA L T r ry [(55, 1000)] σ sz (fun x σ1 => True)) 0 0 (dm L sz) := by
  refine Met.ofW (cc := cX11_leaves) (maxL := 4) (ret := (some .int)) (by decide) rfl ?_
  intro p e s m args below meth c s₁ B hml hv
  obtain ⟨rfl, hsz, hP, hK, hN⟩ := hv
  have hx := B.exec
  have hb := B.bytes
  have hr := B.returns
  have hts : ∀ w ∈ wsA, w.before _ s = true := fun w h => atoms_spec (ws := .code yX11_leaves cX11_leaves 4 (some .int) :: wsA) B.pre w (List.mem_cons_of_mem _ h)
  have hown : s.vm.findClass RX11 = some m.cls := findClass_of_methodNamed B.named
  subst hsz
  have hLA : LA (dm L s.heap.size) L := ⟨hL, fun a h => Or.inl h⟩
  have hA : ∀ q : Nat, s.heap.size ≤ q → dm L s.heap.size q := fun q h => Or.inr h
  have hS : va_S (dm L s.heap.size) s.heap s.heap [] := va_S.rf
  have hB : TS D cA L T r ry [(55, 1000)] σ σ ρ s.heap := ⟨hP, hW, FR.rf⟩
  have hl := lv_entry ([.ref h0, .int p1, .int p2]) (n := 4) (Nat.le_of_ble_eq_true rfl)
  rw [lg_entry_eq]
  generalize (lg_sl ([.ref h0, .int p1, .int p2]) ++ List.replicate (4 - (lg_sl ([.ref h0, .int p1, .int p2])).length) Slot.unset).toArray = ls at hl ⊢
  have hl : lv_has ls 4 [(0, .ref h0), (1, .int p1), (2, .int p2)] := hl
  refine lv_aload_n hx hb dX11_leaves_0 rfl (lv_at hl 0 rfl) ?_
  refine lv_iload_n hx hb dX11_leaves_1 rfl (lv_at hl 1 rfl) ?_
  refine t_ci (va_runV (As := [.int p1]) (rest := []) ⟨hx, hb, hml, hown, hts⟩ (cy_X11_isSort l D cA L T r hG hLA.1 σ ρ hB.2.1 _ h0 mh0 th0 p1) (cV hts mv_X11_isSort mw_4_91 rfl rfl ⟨Nat.le_of_ble_eq_true rfl, Nat.le_of_ble_eq_true rfl⟩) (pV hB.1 hK hN mh0 th0 (show shp cA 11 _ _ _ = .inr (11, Fs11 _ _ _) from rfl) rfl) rfl rfl hl.1 rfl (lv_room (Nat.le_of_ble_eq_true rfl)) dX11_leaves_2 ⟨Nat.le_of_ble_eq_true rfl, Nat.le_of_ble_eq_true rfl⟩) hLA hA hB hS (by decide) (fun x_3 σ_1 ρ_2 H locs hB fσ_1 pσ_1 hS => ?_)
  have qσ_1 := FR.nil fσ_1
  subst qσ_1
  obtain ⟨ox_3, ix_3⟩ := pσ_1
  refine lv_if_eq (tgt := 18) hx hb dX11_leaves_5 (by decide) (fun c_4 => ?_) (fun c_4 => ?_)
  · skip
    have uc_4 := i_eq (n := 0) (by decide) c_4
    refine lv_iconst (v := (-1)) hx hb dX11_leaves_18 (by decide) ?_
    exact W.iret (v := (-1)) hx hb hr (fun t ht hW => ⟨⟨(-1), (σ, ρ_2), rfl, ⟨hB.2.1, hB.2.2, trivial⟩, (show TP D cA L T r σ ρ_2 t.heap from by rw [ht]; exact hB.1)⟩, hS.F ht⟩) hS.2.2 dX11_leaves_19
  · skip
    have uc_4 := i_ne (n := 0) (by decide) c_4
    refine lv_iload_n hx hb dX11_leaves_8 rfl (lv_at hl 2 rfl) ?_
    refine lv_if_lt (tgt := 18) hx hb dX11_leaves_9 (by decide) (fun c_5 => ?_) (fun c_5 => ?_)
    · skip
      have uc_5 := i_lt (n := 0) (by decide) c_5
      refine lv_iconst (v := (-1)) hx hb dX11_leaves_18 (by decide) ?_
      exact W.iret (v := (-1)) hx hb hr (fun t ht hW => ⟨⟨(-1), (σ, ρ_2), rfl, ⟨hB.2.1, hB.2.2, trivial⟩, (show TP D cA L T r σ ρ_2 t.heap from by rw [ht]; exact hB.1)⟩, hS.F ht⟩) hS.2.2 dX11_leaves_19
    · skip
      have uc_5 := i_nlt (n := 0) (by decide) c_5
      refine lv_iload_n hx hb dX11_leaves_12 rfl (lv_at hl 2 rfl) ?_
      refine lv_bipush (v := 9) hx hb dX11_leaves_13 (by decide) ?_
      refine lv_icmp_le (tgt := 20) hx hb dX11_leaves_15 (by decide) (fun c_6 => ?_) (fun c_6 => ?_)
      · skip
        have uc_6 := i_le (n := 9) (by decide) c_6
        refine lv_aload_n hx hb dX11_leaves_20 rfl (lv_at hl 0 rfl) ?_
        refine t_gr hx hb hts hown hK hG hB mh0 th0 fq_11_3 rfl mw_2_210 dX11_leaves_21 (fun b_7 hb_7 mb_7 tb_7 => ?_)
        refine t_gr hx hb hts hown hK hG hB mb_7 tb_7 fq_10_2 rfl mw_2_1 dX11_leaves_24 (fun b_8 hb_8 mb_8 tb_8 => ?_)
        refine lv_iload_n hx hb dX11_leaves_27 rfl (lv_at hl 1 rfl) ?_
        refine t_ai hx hb hK hB mb_8 tb_8 ai_55 (fun _ => rfl) (i_in (by omega) (by omega)) dX11_leaves_28 (fun x_9 ex_9 lx_9 ux_9 => ?_)
        have cx_9 := congrArg Int32.toInt ex_9
        refine lv_istore_n (lv' := [(3, .int x_9), (0, .ref h0), (1, .int p1), (2, .int p2)]) hx hb dX11_leaves_29 rfl hl (by decide) rfl (fun ls hl => ?_)
        refine lv_aload_n hx hb dX11_leaves_30 rfl (lv_at hl 1 rfl) ?_
        refine t_gk hx hb hts hown hK hB mh0 th0 fq_11_3 hb_7 mw_2_210 dX11_leaves_31 ?_
        refine t_gk hx hb hts hown hK hB mb_7 tb_7 fq_10_2 hb_8 mw_2_1 dX11_leaves_34 ?_
        refine lv_iload_n hx hb dX11_leaves_37 rfl (lv_at hl 2 rfl) ?_
        refine lv_iload_n hx hb dX11_leaves_38 rfl (lv_at hl 3 rfl) ?_
        refine t_si hx hb hK hLA hB hS mb_8 tb_8 ai_55 (i_in (by omega) (by omega)) (by show 0 ≤ _; (first | omega | (subst_vars; omega))) (by show _ ≤ 9; (first | omega | (subst_vars; omega))) (Or.inr (by decide)) dX11_leaves_39 (fun H locs σ_10 eσ_10 hB hS => ?_)
        have k_11 : σ_10 b_8 p1.toNatClampNeg = p2 := by rw [eσ_10]; exact up2_same _ _ _ _
        refine lv_iload_n hx hb dX11_leaves_40 rfl (lv_at hl 0 rfl) ?_
        exact W.iret (v := x_9) hx hb hr (fun t ht hW => ⟨⟨x_9, (σ_10, ρ_2), rfl, ⟨hB.2.1, hB.2.2, trivial⟩, (show TP D cA L T r σ_10 ρ_2 t.heap from by rw [ht]; exact hB.1)⟩, hS.F ht⟩) hS.2.2 dX11_leaves_41
      · skip
        have uc_6 := i_nle (n := 9) (by decide) c_6
        refine lv_iconst (v := (-1)) hx hb dX11_leaves_18 (by decide) ?_
        exact W.iret (v := (-1)) hx hb hr (fun t ht hW => ⟨⟨(-1), (σ, ρ_2), rfl, ⟨hB.2.1, hB.2.2, trivial⟩, (show TP D cA L T r σ ρ_2 t.heap from by rw [ht]; exact hB.1)⟩, hS.F ht⟩) hS.2.2 dX11_leaves_19
theorem mw_2_13 : (.fieldLink RX11 309 "HillBends$World" "notes" "I" : Cond) ∈ wsA := wsA_t (List.mem_append_right _ (List.mem_append_left _ (List.mem_of_getElem? (l := tables_1_2) (i := 13) rfl))) rfl
theorem mw_2_4 : (.fieldLink RX11 312 "HillBends$World" "noteNight" "[I" : Cond) ∈ wsA := wsA_t (List.mem_append_right _ (List.mem_append_left _ (List.mem_of_getElem? (l := tables_1_2) (i := 4) rfl))) rfl
theorem mw_2_7 : (.fieldLink RX11 315 "HillBends$World" "noteBend" "[I" : Cond) ∈ wsA := wsA_t (List.mem_append_right _ (List.mem_append_left _ (List.mem_of_getElem? (l := tables_1_2) (i := 7) rfl))) rfl
theorem mw_2_10 : (.fieldLink RX11 318 "HillBends$World" "noteSort" "[I" : Cond) ∈ wsA := wsA_t (List.mem_append_right _ (List.mem_append_left _ (List.mem_of_getElem? (l := tables_1_2) (i := 10) rfl))) rfl
theorem dX11_note_0 : decode cX11_note 0 = .ok (.iload_n 1, 1) := by decide +kernel
theorem dX11_note_1 : decode cX11_note 1 = .ok (.iconst (-1), 1) := by decide +kernel
theorem dX11_note_2 : decode cX11_note 2 = .ok (.if_icmp .ne 13, 3) := by decide +kernel
theorem dX11_note_15 : decode cX11_note 15 = .ok (.iload_n 1, 1) := by decide +kernel
theorem dX11_note_16 : decode cX11_note 16 = .ok (.ifCond .lt 37, 3) := by decide +kernel
theorem dX11_note_53 : decode cX11_note 53 = .ok (.bipush (-2), 2) := by decide +kernel
theorem dX11_note_55 : decode cX11_note 55 = .ok (.ireturn, 1) := by decide +kernel
theorem dX11_note_19 : decode cX11_note 19 = .ok (.iload_n 1, 1) := by decide +kernel
theorem dX11_note_20 : decode cX11_note 20 = .ok (.bipush 60, 2) := by decide +kernel
theorem dX11_note_22 : decode cX11_note 22 = .ok (.if_icmp .gt 31, 3) := by decide +kernel
theorem dX11_note_25 : decode cX11_note 25 = .ok (.aload_n 0, 1) := by decide +kernel
theorem dX11_note_26 : decode cX11_note 26 = .ok (.iload_n 2, 1) := by decide +kernel
theorem dX11_note_27 : decode cX11_note 27 = .ok (.invokevirtual 147, 3) := by decide +kernel
theorem dX11_note_30 : decode cX11_note 30 = .ok (.ifCond .eq 23, 3) := by decide +kernel
theorem dX11_note_33 : decode cX11_note 33 = .ok (.aload_n 0, 1) := by decide +kernel
theorem dX11_note_34 : decode cX11_note 34 = .ok (.iload_n 3, 1) := by decide +kernel
theorem dX11_note_35 : decode cX11_note 35 = .ok (.invokevirtual 166, 3) := by decide +kernel
theorem dX11_note_38 : decode cX11_note 38 = .ok (.ifCond .eq 15, 3) := by decide +kernel
theorem dX11_note_41 : decode cX11_note 41 = .ok (.aload_n 0, 1) := by decide +kernel
theorem dX11_note_42 : decode cX11_note 42 = .ok (.getfield 32, 3) := by decide +kernel
theorem dX11_note_45 : decode cX11_note 45 = .ok (.getfield 309, 3) := by decide +kernel
theorem dX11_note_48 : decode cX11_note 48 = .ok (.bipush 10, 2) := by decide +kernel
theorem dX11_note_50 : decode cX11_note 50 = .ok (.if_icmp .lt 6, 3) := by decide +kernel
theorem dX11_note_56 : decode cX11_note 56 = .ok (.aload_n 0, 1) := by decide +kernel
theorem dX11_note_57 : decode cX11_note 57 = .ok (.getfield 32, 3) := by decide +kernel
theorem dX11_note_60 : decode cX11_note 60 = .ok (.getfield 312, 3) := by decide +kernel
theorem dX11_note_63 : decode cX11_note 63 = .ok (.aload_n 0, 1) := by decide +kernel
theorem dX11_note_64 : decode cX11_note 64 = .ok (.getfield 32, 3) := by decide +kernel
theorem dX11_note_67 : decode cX11_note 67 = .ok (.getfield 309, 3) := by decide +kernel
theorem dX11_note_70 : decode cX11_note 70 = .ok (.iload_n 1, 1) := by decide +kernel
theorem dX11_note_71 : decode cX11_note 71 = .ok (.iastore, 1) := by decide +kernel
theorem dX11_note_72 : decode cX11_note 72 = .ok (.aload_n 0, 1) := by decide +kernel
theorem dX11_note_73 : decode cX11_note 73 = .ok (.getfield 32, 3) := by decide +kernel
theorem dX11_note_76 : decode cX11_note 76 = .ok (.getfield 315, 3) := by decide +kernel
theorem dX11_note_79 : decode cX11_note 79 = .ok (.aload_n 0, 1) := by decide +kernel
theorem dX11_note_80 : decode cX11_note 80 = .ok (.getfield 32, 3) := by decide +kernel
theorem dX11_note_83 : decode cX11_note 83 = .ok (.getfield 309, 3) := by decide +kernel
theorem dX11_note_86 : decode cX11_note 86 = .ok (.iload_n 2, 1) := by decide +kernel
theorem dX11_note_87 : decode cX11_note 87 = .ok (.iastore, 1) := by decide +kernel
theorem dX11_note_88 : decode cX11_note 88 = .ok (.aload_n 0, 1) := by decide +kernel
theorem dX11_note_89 : decode cX11_note 89 = .ok (.getfield 32, 3) := by decide +kernel
theorem dX11_note_92 : decode cX11_note 92 = .ok (.getfield 318, 3) := by decide +kernel
theorem dX11_note_95 : decode cX11_note 95 = .ok (.aload_n 0, 1) := by decide +kernel
theorem dX11_note_96 : decode cX11_note 96 = .ok (.getfield 32, 3) := by decide +kernel
theorem dX11_note_99 : decode cX11_note 99 = .ok (.getfield 309, 3) := by decide +kernel
theorem dX11_note_102 : decode cX11_note 102 = .ok (.iload_n 3, 1) := by decide +kernel
theorem dX11_note_103 : decode cX11_note 103 = .ok (.iastore, 1) := by decide +kernel
theorem dX11_note_104 : decode cX11_note 104 = .ok (.aload_n 0, 1) := by decide +kernel
theorem dX11_note_105 : decode cX11_note 105 = .ok (.getfield 32, 3) := by decide +kernel
theorem dX11_note_108 : decode cX11_note 108 = .ok (.dup, 1) := by decide +kernel
theorem dX11_note_109 : decode cX11_note 109 = .ok (.getfield 309, 3) := by decide +kernel
theorem dX11_note_112 : decode cX11_note 112 = .ok (.iconst 1, 1) := by decide +kernel
theorem dX11_note_113 : decode cX11_note 113 = .ok (.iadd, 1) := by decide +kernel
theorem dX11_note_114 : decode cX11_note 114 = .ok (.putfield 309, 3) := by decide +kernel
theorem dX11_note_117 : decode cX11_note 117 = .ok (.aload_n 0, 1) := by decide +kernel
theorem dX11_note_118 : decode cX11_note 118 = .ok (.getfield 32, 3) := by decide +kernel
theorem dX11_note_121 : decode cX11_note 121 = .ok (.getfield 309, 3) := by decide +kernel
theorem dX11_note_124 : decode cX11_note 124 = .ok (.ireturn, 1) := by decide +kernel
theorem dX11_note_5 : decode cX11_note 5 = .ok (.aload_n 0, 1) := by decide +kernel
theorem dX11_note_6 : decode cX11_note 6 = .ok (.getfield 32, 3) := by decide +kernel
theorem dX11_note_9 : decode cX11_note 9 = .ok (.iconst 0, 1) := by decide +kernel
theorem dX11_note_10 : decode cX11_note 10 = .ok (.putfield 309, 3) := by decide +kernel
theorem dX11_note_13 : decode cX11_note 13 = .ok (.iconst 0, 1) := by decide +kernel
theorem dX11_note_14 : decode cX11_note 14 = .ok (.ireturn, 1) := by decide +kernel
set_option maxHeartbeats 4000000 in
set_option maxRecDepth 100000 in
theorem cy_X11_note (l : Launch) (D : va_G) (cA : Nat → ClassId) (L : List Nat) (T : Nat → Nat) (r : Rg) (hG : GR L T r) (hL : L.Nodup) (σ : Sg) (ρ : Lg) (hW : WT L ry T σ) (sz : Nat) (h0 : Nat) (mh0 : h0 ∈ L) (th0 : T h0 = 11) (p1 : Int32) (p2 : Int32) (p3 : Int32) : Met l yX11_note (.code yX11_note cX11_note 4 (some .int) :: wsA) ({ frames := 1, cells := 0, slots := 0, locals := 21 }) (PR D cA L T r σ ρ sz [.ref h0, .int p1, .int p2, .int p3]) (QI D cA L T r ry [(10, 6), (56, 1000), (57, 1000), (58, 1000)] σ sz (fun x σ1 => True)) 0 0 (dm L sz) := by
  refine Met.ofW (cc := cX11_note) (maxL := 4) (ret := (some .int)) (by decide) rfl ?_
  intro p e s m args below meth c s₁ B hml hv
  obtain ⟨rfl, hsz, hP, hK, hN⟩ := hv
  have hx := B.exec
  have hb := B.bytes
  have hr := B.returns
  have hts : ∀ w ∈ wsA, w.before _ s = true := fun w h => atoms_spec (ws := .code yX11_note cX11_note 4 (some .int) :: wsA) B.pre w (List.mem_cons_of_mem _ h)
  have hown : s.vm.findClass RX11 = some m.cls := findClass_of_methodNamed B.named
  subst hsz
  have hLA : LA (dm L s.heap.size) L := ⟨hL, fun a h => Or.inl h⟩
  have hA : ∀ q : Nat, s.heap.size ≤ q → dm L s.heap.size q := fun q h => Or.inr h
  have hS : va_S (dm L s.heap.size) s.heap s.heap [] := va_S.rf
  have hB : TS D cA L T r ry [(10, 6), (56, 1000), (57, 1000), (58, 1000)] σ σ ρ s.heap := ⟨hP, hW, FR.rf⟩
  have hl := lv_entry ([.ref h0, .int p1, .int p2, .int p3]) (n := 4) (Nat.le_of_ble_eq_true rfl)
  rw [lg_entry_eq]
  generalize (lg_sl ([.ref h0, .int p1, .int p2, .int p3]) ++ List.replicate (4 - (lg_sl ([.ref h0, .int p1, .int p2, .int p3])).length) Slot.unset).toArray = ls at hl ⊢
  have hl : lv_has ls 4 [(0, .ref h0), (1, .int p1), (2, .int p2), (3, .int p3)] := hl
  refine lv_iload_n hx hb dX11_note_0 rfl (lv_at hl 1 rfl) ?_
  refine lv_iconst (v := (-1)) hx hb dX11_note_1 (by decide) ?_
  refine lv_icmp_ne (tgt := 15) hx hb dX11_note_2 (by decide) (fun c_1 => ?_) (fun c_1 => ?_)
  · skip
    have uc_1 := i_ne (n := (-1)) (by decide) c_1
    refine lv_iload_n hx hb dX11_note_15 rfl (lv_at hl 1 rfl) ?_
    refine lv_if_lt (tgt := 53) hx hb dX11_note_16 (by decide) (fun c_2 => ?_) (fun c_2 => ?_)
    · skip
      have uc_2 := i_lt (n := 0) (by decide) c_2
      refine lv_bipush (v := (-2)) hx hb dX11_note_53 (by decide) ?_
      exact W.iret (v := (-2)) hx hb hr (fun t ht hW => ⟨⟨(-2), (σ, ρ), rfl, ⟨hB.2.1, hB.2.2, trivial⟩, (show TP D cA L T r σ ρ t.heap from by rw [ht]; exact hB.1)⟩, hS.F ht⟩) hS.2.2 dX11_note_55
    · skip
      have uc_2 := i_nlt (n := 0) (by decide) c_2
      refine lv_iload_n hx hb dX11_note_19 rfl (lv_at hl 1 rfl) ?_
      refine lv_bipush (v := 60) hx hb dX11_note_20 (by decide) ?_
      refine lv_icmp_gt (tgt := 53) hx hb dX11_note_22 (by decide) (fun c_3 => ?_) (fun c_3 => ?_)
      · skip
        have uc_3 := i_gt (n := 60) (by decide) c_3
        refine lv_bipush (v := (-2)) hx hb dX11_note_53 (by decide) ?_
        exact W.iret (v := (-2)) hx hb hr (fun t ht hW => ⟨⟨(-2), (σ, ρ), rfl, ⟨hB.2.1, hB.2.2, trivial⟩, (show TP D cA L T r σ ρ t.heap from by rw [ht]; exact hB.1)⟩, hS.F ht⟩) hS.2.2 dX11_note_55
      · skip
        have uc_3 := i_ngt (n := 60) (by decide) c_3
        refine lv_aload_n hx hb dX11_note_25 rfl (lv_at hl 0 rfl) ?_
        refine lv_iload_n hx hb dX11_note_26 rfl (lv_at hl 2 rfl) ?_
        refine t_ci (va_runV (As := [.int p2]) (rest := []) ⟨hx, hb, hml, hown, hts⟩ (cy_X11_isBend l D cA L T r hG hLA.1 σ ρ hB.2.1 _ h0 mh0 th0 p2) (cV hts mv_X11_isBend mw_4_79 rfl rfl ⟨Nat.le_of_ble_eq_true rfl, Nat.le_of_ble_eq_true rfl⟩) (pV hB.1 hK hN mh0 th0 (show shp cA 11 _ _ _ = .inr (11, Fs11 _ _ _) from rfl) rfl) rfl rfl hl.1 rfl (lv_room (Nat.le_of_ble_eq_true rfl)) dX11_note_27 ⟨Nat.le_of_ble_eq_true rfl, Nat.le_of_ble_eq_true rfl⟩) hLA hA hB hS (by decide) (fun x_6 σ_4 ρ_5 H locs hB fσ_4 pσ_4 hS => ?_)
        have qσ_4 := FR.nil fσ_4
        subst qσ_4
        obtain ⟨ox_6, ix_6⟩ := pσ_4
        refine lv_if_eq (tgt := 53) hx hb dX11_note_30 (by decide) (fun c_7 => ?_) (fun c_7 => ?_)
        · skip
          have uc_7 := i_eq (n := 0) (by decide) c_7
          refine lv_bipush (v := (-2)) hx hb dX11_note_53 (by decide) ?_
          exact W.iret (v := (-2)) hx hb hr (fun t ht hW => ⟨⟨(-2), (σ, ρ_5), rfl, ⟨hB.2.1, hB.2.2, trivial⟩, (show TP D cA L T r σ ρ_5 t.heap from by rw [ht]; exact hB.1)⟩, hS.F ht⟩) hS.2.2 dX11_note_55
        · skip
          have uc_7 := i_ne (n := 0) (by decide) c_7
          refine lv_aload_n hx hb dX11_note_33 rfl (lv_at hl 0 rfl) ?_
          refine lv_iload_n hx hb dX11_note_34 rfl (lv_at hl 3 rfl) ?_
          refine t_ci (va_runV (As := [.int p3]) (rest := []) ⟨hx, hb, hml, hown, hts⟩ (cy_X11_isSort l D cA L T r hG hLA.1 σ ρ_5 hB.2.1 _ h0 mh0 th0 p3) (cV hts mv_X11_isSort mw_4_91 rfl rfl ⟨Nat.le_of_ble_eq_true rfl, Nat.le_of_ble_eq_true rfl⟩) (pV hB.1 hK hN mh0 th0 (show shp cA 11 _ _ _ = .inr (11, Fs11 _ _ _) from rfl) rfl) rfl rfl hl.1 rfl (lv_room (Nat.le_of_ble_eq_true rfl)) dX11_note_35 ⟨Nat.le_of_ble_eq_true rfl, Nat.le_of_ble_eq_true rfl⟩) hLA hA hB hS (by decide) (fun x_10 σ_8 ρ_9 H locs hB fσ_8 pσ_8 hS => ?_)
          have qσ_8 := FR.nil fσ_8
          subst qσ_8
          obtain ⟨ox_10, ix_10⟩ := pσ_8
          refine lv_if_eq (tgt := 53) hx hb dX11_note_38 (by decide) (fun c_11 => ?_) (fun c_11 => ?_)
          · skip
            have uc_11 := i_eq (n := 0) (by decide) c_11
            refine lv_bipush (v := (-2)) hx hb dX11_note_53 (by decide) ?_
            exact W.iret (v := (-2)) hx hb hr (fun t ht hW => ⟨⟨(-2), (σ, ρ_9), rfl, ⟨hB.2.1, hB.2.2, trivial⟩, (show TP D cA L T r σ ρ_9 t.heap from by rw [ht]; exact hB.1)⟩, hS.F ht⟩) hS.2.2 dX11_note_55
          · skip
            have uc_11 := i_ne (n := 0) (by decide) c_11
            refine lv_aload_n hx hb dX11_note_41 rfl (lv_at hl 0 rfl) ?_
            refine t_gr hx hb hts hown hK hG hB mh0 th0 fq_11_3 rfl mw_2_210 dX11_note_42 (fun b_12 hb_12 mb_12 tb_12 => ?_)
            refine t_gi hx hb hts hown hK hB mb_12 tb_12 fi_10_6 rfl mw_2_13 dX11_note_45 (fun x_13 ex_13 lx_13 ux_13 => ?_)
            have cx_13 := congrArg Int32.toInt ex_13
            refine lv_bipush (v := 10) hx hb dX11_note_48 (by decide) ?_
            refine lv_icmp_lt (tgt := 56) hx hb dX11_note_50 (by decide) (fun c_14 => ?_) (fun c_14 => ?_)
            · skip
              have uc_14 := i_lt (n := 10) (by decide) c_14
              refine lv_aload_n hx hb dX11_note_56 rfl (lv_at hl 0 rfl) ?_
              refine t_gk hx hb hts hown hK hB mh0 th0 fq_11_3 hb_12 mw_2_210 dX11_note_57 ?_
              refine t_gr hx hb hts hown hK hG hB mb_12 tb_12 fq_10_3 rfl mw_2_4 dX11_note_60 (fun b_15 hb_15 mb_15 tb_15 => ?_)
              refine lv_aload_n hx hb dX11_note_63 rfl (lv_at hl 0 rfl) ?_
              refine t_gk hx hb hts hown hK hB mh0 th0 fq_11_3 hb_12 mw_2_210 dX11_note_64 ?_
              refine t_gv hx hb hts hown hK hB mb_12 tb_12 fi_10_6 ex_13.symm mw_2_13 dX11_note_67 ?_
              refine lv_iload_n hx hb dX11_note_70 rfl (lv_at hl 1 rfl) ?_
              refine t_si hx hb hK hLA hB hS mb_15 tb_15 ai_56 (i_in (by omega) (by omega)) (by show 0 ≤ _; (first | omega | (subst_vars; omega))) (by show _ ≤ 60; (first | omega | (subst_vars; omega))) (Or.inr (by decide)) dX11_note_71 (fun H locs σ_16 eσ_16 hB hS => ?_)
              have k_17 : σ_16 b_15 x_13.toNatClampNeg = p1 := by rw [eσ_16]; exact up2_same _ _ _ _
              refine lv_aload_n hx hb dX11_note_72 rfl (lv_at hl 0 rfl) ?_
              refine t_gk hx hb hts hown hK hB mh0 th0 fq_11_3 hb_12 mw_2_210 dX11_note_73 ?_
              refine t_gr hx hb hts hown hK hG hB mb_12 tb_12 fq_10_4 rfl mw_2_7 dX11_note_76 (fun b_18 hb_18 mb_18 tb_18 => ?_)
              refine lv_aload_n hx hb dX11_note_79 rfl (lv_at hl 0 rfl) ?_
              refine t_gk hx hb hts hown hK hB mh0 th0 fq_11_3 hb_12 mw_2_210 dX11_note_80 ?_
              have k_19 : σ_16 b_12 6 = x_13 := by rw [eσ_16, up2_nea _ _ (tg_ne tb_12 tb_15 (by decide))]; exact ex_13.symm
              refine t_gv hx hb hts hown hK hB mb_12 tb_12 fi_10_6 k_19 mw_2_13 dX11_note_83 ?_
              refine lv_iload_n hx hb dX11_note_86 rfl (lv_at hl 2 rfl) ?_
              refine t_si hx hb hK hLA hB hS mb_18 tb_18 ai_57 (i_in (by omega) (by omega)) (by show 0 ≤ _; (first | omega | (subst_vars; omega))) (by show _ ≤ 7; (first | omega | (subst_vars; omega))) (Or.inr (by decide)) dX11_note_87 (fun H locs σ_20 eσ_20 hB hS => ?_)
              have k_21 : σ_20 b_18 x_13.toNatClampNeg = p2 := by rw [eσ_20]; exact up2_same _ _ _ _
              refine lv_aload_n hx hb dX11_note_88 rfl (lv_at hl 0 rfl) ?_
              refine t_gk hx hb hts hown hK hB mh0 th0 fq_11_3 hb_12 mw_2_210 dX11_note_89 ?_
              refine t_gr hx hb hts hown hK hG hB mb_12 tb_12 fq_10_5 rfl mw_2_10 dX11_note_92 (fun b_22 hb_22 mb_22 tb_22 => ?_)
              refine lv_aload_n hx hb dX11_note_95 rfl (lv_at hl 0 rfl) ?_
              refine t_gk hx hb hts hown hK hB mh0 th0 fq_11_3 hb_12 mw_2_210 dX11_note_96 ?_
              have k_23 : σ_20 b_12 6 = x_13 := by rw [eσ_20, up2_nea _ _ (tg_ne tb_12 tb_18 (by decide))]; exact k_19
              refine t_gv hx hb hts hown hK hB mb_12 tb_12 fi_10_6 k_23 mw_2_13 dX11_note_99 ?_
              refine lv_iload_n hx hb dX11_note_102 rfl (lv_at hl 3 rfl) ?_
              refine t_si hx hb hK hLA hB hS mb_22 tb_22 ai_58 (i_in (by omega) (by omega)) (by show 0 ≤ _; (first | omega | (subst_vars; omega))) (by show _ ≤ 4; (first | omega | (subst_vars; omega))) (Or.inr (by decide)) dX11_note_103 (fun H locs σ_24 eσ_24 hB hS => ?_)
              have k_25 : σ_24 b_22 x_13.toNatClampNeg = p3 := by rw [eσ_24]; exact up2_same _ _ _ _
              refine lv_aload_n hx hb dX11_note_104 rfl (lv_at hl 0 rfl) ?_
              refine t_gk hx hb hts hown hK hB mh0 th0 fq_11_3 hb_12 mw_2_210 dX11_note_105 ?_
              refine lv_dup hx hb dX11_note_108 rfl ?_
              have k_26 : σ_24 b_12 6 = x_13 := by rw [eσ_24, up2_nea _ _ (tg_ne tb_12 tb_22 (by decide))]; exact k_23
              refine t_gv hx hb hts hown hK hB mb_12 tb_12 fi_10_6 k_26 mw_2_13 dX11_note_109 ?_
              refine lv_iconst (v := 1) hx hb dX11_note_112 (by decide) ?_
              refine lv_iadd hx hb dX11_note_113 ?_
              refine lv_topi (fun x_27 ex_27 => ?_)
              have vx_27 := b_add (rfl : x_13.toInt = _) (by decide : (1 : Int32).toInt = 1) ex_27 (by omega) (by omega)
              refine t_pi hx hb hts hown hK hLA hB hS mb_12 tb_12 fi_10_6 rfl rfl rfl (by first | omega | (subst_vars; omega)) (by first | omega | (subst_vars; omega)) (Or.inl (by decide)) mw_2_13 dX11_note_114 (fun H locs σ_28 eσ_28 hB hS => ?_)
              have k_29 : σ_28 b_12 6 = x_27 := by rw [eσ_28]; exact up2_same _ _ _ _
              refine lv_aload_n hx hb dX11_note_117 rfl (lv_at hl 0 rfl) ?_
              refine t_gk hx hb hts hown hK hB mh0 th0 fq_11_3 hb_12 mw_2_210 dX11_note_118 ?_
              refine t_gv hx hb hts hown hK hB mb_12 tb_12 fi_10_6 k_29 mw_2_13 dX11_note_121 ?_
              exact W.iret (v := x_27) hx hb hr (fun t ht hW => ⟨⟨x_27, (σ_28, ρ_9), rfl, ⟨hB.2.1, hB.2.2, trivial⟩, (show TP D cA L T r σ_28 ρ_9 t.heap from by rw [ht]; exact hB.1)⟩, hS.F ht⟩) hS.2.2 dX11_note_124
            · skip
              have uc_14 := i_nlt (n := 10) (by decide) c_14
              refine lv_bipush (v := (-2)) hx hb dX11_note_53 (by decide) ?_
              exact W.iret (v := (-2)) hx hb hr (fun t ht hW => ⟨⟨(-2), (σ, ρ_9), rfl, ⟨hB.2.1, hB.2.2, trivial⟩, (show TP D cA L T r σ ρ_9 t.heap from by rw [ht]; exact hB.1)⟩, hS.F ht⟩) hS.2.2 dX11_note_55
  · skip
    have uc_1 := i_eq (n := (-1)) (by decide) c_1
    refine lv_aload_n hx hb dX11_note_5 rfl (lv_at hl 0 rfl) ?_
    refine t_gr hx hb hts hown hK hG hB mh0 th0 fq_11_3 rfl mw_2_210 dX11_note_6 (fun b_30 hb_30 mb_30 tb_30 => ?_)
    refine lv_iconst (v := 0) hx hb dX11_note_9 (by decide) ?_
    refine t_pi hx hb hts hown hK hLA hB hS mb_30 tb_30 fi_10_6 rfl rfl rfl (by decide) (by decide) (Or.inl (by decide)) mw_2_13 dX11_note_10 (fun H locs σ_31 eσ_31 hB hS => ?_)
    have k_32 : σ_31 b_30 6 = 0 := by rw [eσ_31]; exact up2_same _ _ _ _
    refine lv_iconst (v := 0) hx hb dX11_note_13 (by decide) ?_
    exact W.iret (v := 0) hx hb hr (fun t ht hW => ⟨⟨0, (σ_31, ρ), rfl, ⟨hB.2.1, hB.2.2, trivial⟩, (show TP D cA L T r σ_31 ρ t.heap from by rw [ht]; exact hB.1)⟩, hS.F ht⟩) hS.2.2 dX11_note_14
theorem mw_2_18 : (.fieldLink RX11 334 "HillBends$World" "x" "I" : Cond) ∈ wsA := wsA_t (List.mem_append_right _ (List.mem_append_left _ (List.mem_of_getElem? (l := tables_1_2) (i := 18) rfl))) rfl
theorem dX11_seed_0 : decode cX11_seed 0 = .ok (.iload_n 1, 1) := by decide +kernel
theorem dX11_seed_1 : decode cX11_seed 1 = .ok (.ifCond .ge 5, 3) := by decide +kernel
theorem dX11_seed_6 : decode cX11_seed 6 = .ok (.aload_n 0, 1) := by decide +kernel
theorem dX11_seed_7 : decode cX11_seed 7 = .ok (.getfield 32, 3) := by decide +kernel
theorem dX11_seed_10 : decode cX11_seed 10 = .ok (.getfield 334, 3) := by decide +kernel
theorem dX11_seed_13 : decode cX11_seed 13 = .ok (.istore_n 2, 1) := by decide +kernel
theorem dX11_seed_14 : decode cX11_seed 14 = .ok (.aload_n 0, 1) := by decide +kernel
theorem dX11_seed_15 : decode cX11_seed 15 = .ok (.getfield 32, 3) := by decide +kernel
theorem dX11_seed_18 : decode cX11_seed 18 = .ok (.iload_n 1, 1) := by decide +kernel
theorem dX11_seed_19 : decode cX11_seed 19 = .ok (.putfield 334, 3) := by decide +kernel
theorem dX11_seed_22 : decode cX11_seed 22 = .ok (.iload_n 2, 1) := by decide +kernel
theorem dX11_seed_23 : decode cX11_seed 23 = .ok (.ireturn, 1) := by decide +kernel
theorem dX11_seed_4 : decode cX11_seed 4 = .ok (.iconst (-1), 1) := by decide +kernel
theorem dX11_seed_5 : decode cX11_seed 5 = .ok (.ireturn, 1) := by decide +kernel
set_option maxHeartbeats 4000000 in
set_option maxRecDepth 100000 in
theorem cy_X11_seed (l : Launch) (D : va_G) (cA : Nat → ClassId) (L : List Nat) (T : Nat → Nat) (r : Rg) (hG : GR L T r) (hL : L.Nodup) (σ : Sg) (ρ : Lg) (hW : WT L ry T σ) (sz : Nat) (h0 : Nat) (mh0 : h0 ∈ L) (th0 : T h0 = 11) (p1 : Int32) : Met l yX11_seed (.code yX11_seed cX11_seed 3 (some .int) :: wsA) ({ frames := 0, cells := 0, slots := 0, locals := 0 }) (PR D cA L T r σ ρ sz [.ref h0, .int p1]) (QI D cA L T r ry [(10, 8)] σ sz (fun x σ1 => True)) 0 0 (dm L sz) := by
  refine Met.ofW (cc := cX11_seed) (maxL := 3) (ret := (some .int)) (by decide) rfl ?_
  intro p e s m args below meth c s₁ B hml hv
  obtain ⟨rfl, hsz, hP, hK, hN⟩ := hv
  have hx := B.exec
  have hb := B.bytes
  have hr := B.returns
  have hts : ∀ w ∈ wsA, w.before _ s = true := fun w h => atoms_spec (ws := .code yX11_seed cX11_seed 3 (some .int) :: wsA) B.pre w (List.mem_cons_of_mem _ h)
  have hown : s.vm.findClass RX11 = some m.cls := findClass_of_methodNamed B.named
  subst hsz
  have hLA : LA (dm L s.heap.size) L := ⟨hL, fun a h => Or.inl h⟩
  have hA : ∀ q : Nat, s.heap.size ≤ q → dm L s.heap.size q := fun q h => Or.inr h
  have hS : va_S (dm L s.heap.size) s.heap s.heap [] := va_S.rf
  have hB : TS D cA L T r ry [(10, 8)] σ σ ρ s.heap := ⟨hP, hW, FR.rf⟩
  have hl := lv_entry ([.ref h0, .int p1]) (n := 3) (Nat.le_of_ble_eq_true rfl)
  rw [lg_entry_eq]
  generalize (lg_sl ([.ref h0, .int p1]) ++ List.replicate (3 - (lg_sl ([.ref h0, .int p1])).length) Slot.unset).toArray = ls at hl ⊢
  have hl : lv_has ls 3 [(0, .ref h0), (1, .int p1)] := hl
  refine lv_iload_n hx hb dX11_seed_0 rfl (lv_at hl 1 rfl) ?_
  refine lv_if_ge (tgt := 6) hx hb dX11_seed_1 (by decide) (fun c_1 => ?_) (fun c_1 => ?_)
  · skip
    have uc_1 := i_ge (n := 0) (by decide) c_1
    refine lv_aload_n hx hb dX11_seed_6 rfl (lv_at hl 0 rfl) ?_
    refine t_gr hx hb hts hown hK hG hB mh0 th0 fq_11_3 rfl mw_2_210 dX11_seed_7 (fun b_2 hb_2 mb_2 tb_2 => ?_)
    refine t_gi hx hb hts hown hK hB mb_2 tb_2 fi_10_8 rfl mw_2_18 dX11_seed_10 (fun x_3 ex_3 lx_3 ux_3 => ?_)
    have cx_3 := congrArg Int32.toInt ex_3
    refine lv_istore_n (lv' := [(2, .int x_3), (0, .ref h0), (1, .int p1)]) hx hb dX11_seed_13 rfl hl (by decide) rfl (fun ls hl => ?_)
    refine lv_aload_n hx hb dX11_seed_14 rfl (lv_at hl 1 rfl) ?_
    refine t_gk hx hb hts hown hK hB mh0 th0 fq_11_3 hb_2 mw_2_210 dX11_seed_15 ?_
    refine lv_iload_n hx hb dX11_seed_18 rfl (lv_at hl 2 rfl) ?_
    refine t_pi hx hb hts hown hK hLA hB hS mb_2 tb_2 fi_10_8 rfl rfl rfl (i_lo _) (i_hi _) (Or.inl (by decide)) mw_2_18 dX11_seed_19 (fun H locs σ_4 eσ_4 hB hS => ?_)
    have k_5 : σ_4 b_2 8 = p1 := by rw [eσ_4]; exact up2_same _ _ _ _
    refine lv_iload_n hx hb dX11_seed_22 rfl (lv_at hl 0 rfl) ?_
    exact W.iret (v := x_3) hx hb hr (fun t ht hW => ⟨⟨x_3, (σ_4, ρ), rfl, ⟨hB.2.1, hB.2.2, trivial⟩, (show TP D cA L T r σ_4 ρ t.heap from by rw [ht]; exact hB.1)⟩, hS.F ht⟩) hS.2.2 dX11_seed_23
  · skip
    have uc_1 := i_nge (n := 0) (by decide) c_1
    refine lv_iconst (v := (-1)) hx hb dX11_seed_4 (by decide) ?_
    exact W.iret (v := (-1)) hx hb hr (fun t ht hW => ⟨⟨(-1), (σ, ρ), rfl, ⟨hB.2.1, hB.2.2, trivial⟩, (show TP D cA L T r σ ρ t.heap from by rw [ht]; exact hB.1)⟩, hS.F ht⟩) hS.2.2 dX11_seed_5
theorem mw_1_170 : (.fieldLink RX11 347 "HillBends$Hill" "burden" "I" : Cond) ∈ wsA := wsA_t (List.mem_append_left _ (List.mem_of_getElem? (l := tables_1_1) (i := 170) rfl)) rfl
theorem mw_1_112 : (.fieldLink RX11 181 "HillBends$Scene" "night" "I" : Cond) ∈ wsA := wsA_t (List.mem_append_left _ (List.mem_of_getElem? (l := tables_1_1) (i := 112) rfl)) rfl
theorem mw_4_100 : (.instanceMethod yX3_turned : Cond) ∈ wsA := wsA_t (List.mem_append_right _ (List.mem_append_right _ (List.mem_append_right _ (List.mem_append_left _ (List.mem_of_getElem? (l := tables_1_4) (i := 100) rfl))))) rfl
theorem mw_4_101 : (.selects RX3 yX3_turned yX3_turned : Cond) ∈ wsA := wsA_t (List.mem_append_right _ (List.mem_append_right _ (List.mem_append_right _ (List.mem_append_left _ (List.mem_of_getElem? (l := tables_1_4) (i := 101) rfl))))) rfl
theorem mw_4_102 : (.code yX3_turned cX3_turned 4 (some .int) : Cond) ∈ wsA := wsA_t (List.mem_append_right _ (List.mem_append_right _ (List.mem_append_right _ (List.mem_append_left _ (List.mem_of_getElem? (l := tables_1_4) (i := 102) rfl))))) rfl
theorem mw_4_99 : (.methodLink RX11 184 yX3_turned : Cond) ∈ wsA := wsA_t (List.mem_append_right _ (List.mem_append_right _ (List.mem_append_right _ (List.mem_append_left _ (List.mem_of_getElem? (l := tables_1_4) (i := 99) rfl))))) rfl
theorem mw_5_190 : (.instanceMethod yX8_atTop : Cond) ∈ wsA := wsA_t (List.mem_append_right _ (List.mem_append_right _ (List.mem_append_right _ (List.mem_append_right _ (List.mem_append_left _ (List.mem_of_getElem? (l := tables_1_5) (i := 190) rfl)))))) rfl
theorem mw_5_191 : (.selects RX8 yX8_atTop yX8_atTop : Cond) ∈ wsA := wsA_t (List.mem_append_right _ (List.mem_append_right _ (List.mem_append_right _ (List.mem_append_right _ (List.mem_append_left _ (List.mem_of_getElem? (l := tables_1_5) (i := 191) rfl)))))) rfl
theorem mw_5_192 : (.code yX8_atTop cX8_atTop 4 (some .int) : Cond) ∈ wsA := wsA_t (List.mem_append_right _ (List.mem_append_right _ (List.mem_append_right _ (List.mem_append_right _ (List.mem_append_left _ (List.mem_of_getElem? (l := tables_1_5) (i := 192) rfl)))))) rfl
theorem mw_5_189 : (.methodLink RX11 353 yX8_atTop : Cond) ∈ wsA := wsA_t (List.mem_append_right _ (List.mem_append_right _ (List.mem_append_right _ (List.mem_append_right _ (List.mem_append_left _ (List.mem_of_getElem? (l := tables_1_5) (i := 189) rfl)))))) rfl
theorem mw_5_194 : (.instanceMethod yX8_lying : Cond) ∈ wsA := wsA_t (List.mem_append_right _ (List.mem_append_right _ (List.mem_append_right _ (List.mem_append_right _ (List.mem_append_left _ (List.mem_of_getElem? (l := tables_1_5) (i := 194) rfl)))))) rfl
theorem mw_5_195 : (.selects RX8 yX8_lying yX8_lying : Cond) ∈ wsA := wsA_t (List.mem_append_right _ (List.mem_append_right _ (List.mem_append_right _ (List.mem_append_right _ (List.mem_append_left _ (List.mem_of_getElem? (l := tables_1_5) (i := 195) rfl)))))) rfl
theorem mw_5_196 : (.code yX8_lying cX8_lying 3 (some .int) : Cond) ∈ wsA := wsA_t (List.mem_append_right _ (List.mem_append_right _ (List.mem_append_right _ (List.mem_append_right _ (List.mem_append_left _ (List.mem_of_getElem? (l := tables_1_5) (i := 196) rfl)))))) rfl
theorem mw_5_193 : (.methodLink RX11 356 yX8_lying : Cond) ∈ wsA := wsA_t (List.mem_append_right _ (List.mem_append_right _ (List.mem_append_right _ (List.mem_append_right _ (List.mem_append_left _ (List.mem_of_getElem? (l := tables_1_5) (i := 193) rfl)))))) rfl
theorem dX11_count_0 : decode cX11_count 0 = .ok (.aload_n 0, 1) := by decide +kernel
theorem dX11_count_1 : decode cX11_count 1 = .ok (.getfield 32, 3) := by decide +kernel
theorem dX11_count_4 : decode cX11_count 4 = .ok (.getfield 121, 3) := by decide +kernel
theorem dX11_count_7 : decode cX11_count 7 = .ok (.astore_n 2, 1) := by decide +kernel
theorem dX11_count_8 : decode cX11_count 8 = .ok (.aload_n 0, 1) := by decide +kernel
theorem dX11_count_9 : decode cX11_count 9 = .ok (.getfield 32, 3) := by decide +kernel
theorem dX11_count_12 : decode cX11_count 12 = .ok (.getfield 102, 3) := by decide +kernel
theorem dX11_count_15 : decode cX11_count 15 = .ok (.astore_n 3, 1) := by decide +kernel
theorem dX11_count_16 : decode cX11_count 16 = .ok (.iload_n 1, 1) := by decide +kernel
theorem dX11_count_17 : decode cX11_count 17 = .ok (.tableswitch 161 0 13 #[71, 76, 81, 86, 91, 96, 104, 109, 118, 124, 129, 137, 145, 153], 71) := by decide +kernel
theorem dX11_count_178 : decode cX11_count 178 = .ok (.iconst (-1), 1) := by decide +kernel
theorem dX11_count_179 : decode cX11_count 179 = .ok (.ireturn, 1) := by decide +kernel
theorem dX11_count_88 : decode cX11_count 88 = .ok (.aload_n 3, 1) := by decide +kernel
theorem dX11_count_89 : decode cX11_count 89 = .ok (.getfield 347, 3) := by decide +kernel
theorem dX11_count_92 : decode cX11_count 92 = .ok (.ireturn, 1) := by decide +kernel
theorem dX11_count_93 : decode cX11_count 93 = .ok (.aload_n 3, 1) := by decide +kernel
theorem dX11_count_94 : decode cX11_count 94 = .ok (.getfield 350, 3) := by decide +kernel
theorem dX11_count_97 : decode cX11_count 97 = .ok (.ireturn, 1) := by decide +kernel
theorem dX11_count_98 : decode cX11_count 98 = .ok (.aload_n 3, 1) := by decide +kernel
theorem dX11_count_99 : decode cX11_count 99 = .ok (.getfield 105, 3) := by decide +kernel
theorem dX11_count_102 : decode cX11_count 102 = .ok (.ireturn, 1) := by decide +kernel
theorem dX11_count_103 : decode cX11_count 103 = .ok (.aload_n 3, 1) := by decide +kernel
theorem dX11_count_104 : decode cX11_count 104 = .ok (.getfield 281, 3) := by decide +kernel
theorem dX11_count_107 : decode cX11_count 107 = .ok (.ireturn, 1) := by decide +kernel
theorem dX11_count_108 : decode cX11_count 108 = .ok (.aload_n 0, 1) := by decide +kernel
theorem dX11_count_109 : decode cX11_count 109 = .ok (.getfield 110, 3) := by decide +kernel
theorem dX11_count_112 : decode cX11_count 112 = .ok (.ireturn, 1) := by decide +kernel
theorem dX11_count_113 : decode cX11_count 113 = .ok (.aload_n 0, 1) := by decide +kernel
theorem dX11_count_114 : decode cX11_count 114 = .ok (.getfield 32, 3) := by decide +kernel
theorem dX11_count_117 : decode cX11_count 117 = .ok (.getfield 114, 3) := by decide +kernel
theorem dX11_count_120 : decode cX11_count 120 = .ok (.ireturn, 1) := by decide +kernel
theorem dX11_count_121 : decode cX11_count 121 = .ok (.aload_n 2, 1) := by decide +kernel
theorem dX11_count_122 : decode cX11_count 122 = .ok (.getfield 181, 3) := by decide +kernel
theorem dX11_count_125 : decode cX11_count 125 = .ok (.ireturn, 1) := by decide +kernel
theorem dX11_count_126 : decode cX11_count 126 = .ok (.aload_n 3, 1) := by decide +kernel
theorem dX11_count_127 : decode cX11_count 127 = .ok (.aload_n 2, 1) := by decide +kernel
theorem dX11_count_128 : decode cX11_count 128 = .ok (.getfield 156, 3) := by decide +kernel
theorem dX11_count_131 : decode cX11_count 131 = .ok (.invokevirtual 184, 3) := by decide +kernel
theorem dX11_count_134 : decode cX11_count 134 = .ok (.ireturn, 1) := by decide +kernel
theorem dX11_count_135 : decode cX11_count 135 = .ok (.aload_n 2, 1) := by decide +kernel
theorem dX11_count_136 : decode cX11_count 136 = .ok (.aload_n 3, 1) := by decide +kernel
theorem dX11_count_137 : decode cX11_count 137 = .ok (.invokevirtual 353, 3) := by decide +kernel
theorem dX11_count_140 : decode cX11_count 140 = .ok (.ireturn, 1) := by decide +kernel
theorem dX11_count_141 : decode cX11_count 141 = .ok (.aload_n 2, 1) := by decide +kernel
theorem dX11_count_142 : decode cX11_count 142 = .ok (.invokevirtual 356, 3) := by decide +kernel
theorem dX11_count_145 : decode cX11_count 145 = .ok (.ireturn, 1) := by decide +kernel
theorem dX11_count_146 : decode cX11_count 146 = .ok (.aload_n 0, 1) := by decide +kernel
theorem dX11_count_147 : decode cX11_count 147 = .ok (.getfield 32, 3) := by decide +kernel
theorem dX11_count_150 : decode cX11_count 150 = .ok (.getfield 309, 3) := by decide +kernel
theorem dX11_count_153 : decode cX11_count 153 = .ok (.ireturn, 1) := by decide +kernel
theorem dX11_count_154 : decode cX11_count 154 = .ok (.aload_n 0, 1) := by decide +kernel
theorem dX11_count_155 : decode cX11_count 155 = .ok (.getfield 43, 3) := by decide +kernel
theorem dX11_count_158 : decode cX11_count 158 = .ok (.getfield 237, 3) := by decide +kernel
theorem dX11_count_161 : decode cX11_count 161 = .ok (.ireturn, 1) := by decide +kernel
theorem dX11_count_162 : decode cX11_count 162 = .ok (.aload_n 0, 1) := by decide +kernel
theorem dX11_count_163 : decode cX11_count 163 = .ok (.getfield 32, 3) := by decide +kernel
theorem dX11_count_166 : decode cX11_count 166 = .ok (.getfield 334, 3) := by decide +kernel
theorem dX11_count_169 : decode cX11_count 169 = .ok (.ireturn, 1) := by decide +kernel
theorem dX11_count_170 : decode cX11_count 170 = .ok (.aload_n 0, 1) := by decide +kernel
theorem dX11_count_171 : decode cX11_count 171 = .ok (.getfield 10, 3) := by decide +kernel
theorem dX11_count_174 : decode cX11_count 174 = .ok (.getfield 76, 3) := by decide +kernel
theorem dX11_count_177 : decode cX11_count 177 = .ok (.ireturn, 1) := by decide +kernel
theorem mv_X3_turned : MV RX3 yX3_turned cX3_turned 4 (some .int) 1 := ⟨mw_4_100, mw_4_101, mw_1_4, mw_4_102, ⟨rfl, by decide, by decide, by decide +kernel⟩⟩
theorem mv_X8_atTop : MV RX8 yX8_atTop cX8_atTop 4 (some .int) 1 := ⟨mw_5_190, mw_5_191, mw_1_5, mw_5_192, ⟨rfl, by decide, by decide, by decide +kernel⟩⟩
theorem mv_X8_lying : MV RX8 yX8_lying cX8_lying 3 (some .int) 0 := ⟨mw_5_194, mw_5_195, mw_1_5, mw_5_196, ⟨rfl, by decide, by decide, by decide +kernel⟩⟩
set_option maxHeartbeats 4000000 in
set_option maxRecDepth 100000 in
theorem cy_X11_count (l : Launch) (D : va_G) (cA : Nat → ClassId) (L : List Nat) (T : Nat → Nat) (r : Rg) (hG : GR L T r) (hL : L.Nodup) (σ : Sg) (ρ : Lg) (hW : WT L ry T σ) (sz : Nat) (h0 : Nat) (mh0 : h0 ∈ L) (th0 : T h0 = 11) (p1 : Int32) : Met l yX11_count (.code yX11_count cX11_count 4 (some .int) :: wsA) ({ frames := 2, cells := 0, slots := 0, locals := 45 }) (PR D cA L T r σ ρ sz [.ref h0, .int p1]) (QI D cA L T r ry ([] : List (Nat × Nat)) σ sz (fun x σ1 => True)) 0 0 (dm L sz) := by
  refine Met.ofW (cc := cX11_count) (maxL := 4) (ret := (some .int)) (by decide) rfl ?_
  intro p e s m args below meth c s₁ B hml hv
  obtain ⟨rfl, hsz, hP, hK, hN⟩ := hv
  have hx := B.exec
  have hb := B.bytes
  have hr := B.returns
  have hts : ∀ w ∈ wsA, w.before _ s = true := fun w h => atoms_spec (ws := .code yX11_count cX11_count 4 (some .int) :: wsA) B.pre w (List.mem_cons_of_mem _ h)
  have hown : s.vm.findClass RX11 = some m.cls := findClass_of_methodNamed B.named
  subst hsz
  have hLA : LA (dm L s.heap.size) L := ⟨hL, fun a h => Or.inl h⟩
  have hA : ∀ q : Nat, s.heap.size ≤ q → dm L s.heap.size q := fun q h => Or.inr h
  have hS : va_S (dm L s.heap.size) s.heap s.heap [] := va_S.rf
  have hB : TS D cA L T r ry ([] : List (Nat × Nat)) σ σ ρ s.heap := ⟨hP, hW, FR.rf⟩
  have hl := lv_entry ([.ref h0, .int p1]) (n := 4) (Nat.le_of_ble_eq_true rfl)
  rw [lg_entry_eq]
  generalize (lg_sl ([.ref h0, .int p1]) ++ List.replicate (4 - (lg_sl ([.ref h0, .int p1])).length) Slot.unset).toArray = ls at hl ⊢
  have hl : lv_has ls 4 [(0, .ref h0), (1, .int p1)] := hl
  refine lv_aload_n hx hb dX11_count_0 rfl (lv_at hl 0 rfl) ?_
  refine t_gr hx hb hts hown hK hG hB mh0 th0 fq_11_3 rfl mw_2_210 dX11_count_1 (fun b_1 hb_1 mb_1 tb_1 => ?_)
  refine t_gr hx hb hts hown hK hG hB mb_1 tb_1 fq_10_1 rfl mw_1_239 dX11_count_4 (fun b_2 hb_2 mb_2 tb_2 => ?_)
  refine lv_astore_n (lv' := [(2, .ref b_2), (0, .ref h0), (1, .int p1)]) hx hb dX11_count_7 rfl hl (by decide) rfl (fun ls hl => ?_)
  refine lv_aload_n hx hb dX11_count_8 rfl (lv_at hl 1 rfl) ?_
  refine t_gk hx hb hts hown hK hB mh0 th0 fq_11_3 hb_1 mw_2_210 dX11_count_9 ?_
  refine t_gr hx hb hts hown hK hG hB mb_1 tb_1 fq_10_0 rfl mw_1_236 dX11_count_12 (fun b_3 hb_3 mb_3 tb_3 => ?_)
  refine lv_astore_n (lv' := [(3, .ref b_3), (2, .ref b_2), (0, .ref h0), (1, .int p1)]) hx hb dX11_count_15 rfl hl (by decide) rfl (fun ls hl => ?_)
  refine lv_iload_n hx hb dX11_count_16 rfl (lv_at hl 3 rfl) ?_
  by_cases c_4 : p1.toInt < 0 ∨ 13 < p1.toInt
  · skip
    refine lv_tableOut (tgt := 178) hx hb dX11_count_17 c_4 (by decide) ?_
    refine lv_iconst (v := (-1)) hx hb dX11_count_178 (by decide) ?_
    exact W.iret (v := (-1)) hx hb hr (fun t ht hW => ⟨⟨(-1), (σ, ρ), rfl, ⟨hB.2.1, hB.2.2, trivial⟩, (show TP D cA L T r σ ρ t.heap from by rw [ht]; exact hB.1)⟩, hS.F ht⟩) hS.2.2 dX11_count_179
  · skip
    rcases (show p1.toInt = 0 ∨ p1.toInt = 1 ∨ p1.toInt = 2 ∨ p1.toInt = 3 ∨ p1.toInt = 4 ∨ p1.toInt = 5 ∨ p1.toInt = 6 ∨ p1.toInt = 7 ∨ p1.toInt = 8 ∨ p1.toInt = 9 ∨ p1.toInt = 10 ∨ p1.toInt = 11 ∨ p1.toInt = 12 ∨ p1.toInt = 13 by omega) with c_4j | c_4j | c_4j | c_4j | c_4j | c_4j | c_4j | c_4j | c_4j | c_4j | c_4j | c_4j | c_4j | c_4j
    · skip
      have c_4x : p1 = 0 := i_is (by decide) c_4j
      subst c_4x
      have nnc_4 : (0 : Int32).toInt = 0 := by decide
      refine lv_tableIn (tgt := 88) hx hb dX11_count_17 (by decide) (by decide) rfl (by decide) ?_
      refine lv_aload_n hx hb dX11_count_88 rfl (lv_at hl 0 rfl) ?_
      refine t_gi hx hb hts hown hK hB mb_3 tb_3 fi_3_7 rfl mw_1_170 dX11_count_89 (fun x_5 ex_5 lx_5 ux_5 => ?_)
      have cx_5 := congrArg Int32.toInt ex_5
      exact W.iret (v := x_5) hx hb hr (fun t ht hW => ⟨⟨x_5, (σ, ρ), rfl, ⟨hB.2.1, hB.2.2, trivial⟩, (show TP D cA L T r σ ρ t.heap from by rw [ht]; exact hB.1)⟩, hS.F ht⟩) hS.2.2 dX11_count_92
    · skip
      have c_4x : p1 = 1 := i_is (by decide) c_4j
      subst c_4x
      have nnc_4 : (1 : Int32).toInt = 1 := by decide
      refine lv_tableIn (tgt := 93) hx hb dX11_count_17 (by decide) (by decide) rfl (by decide) ?_
      refine lv_aload_n hx hb dX11_count_93 rfl (lv_at hl 0 rfl) ?_
      refine t_gi hx hb hts hown hK hB mb_3 tb_3 fi_3_8 rfl mw_1_177 dX11_count_94 (fun x_6 ex_6 lx_6 ux_6 => ?_)
      have cx_6 := congrArg Int32.toInt ex_6
      exact W.iret (v := x_6) hx hb hr (fun t ht hW => ⟨⟨x_6, (σ, ρ), rfl, ⟨hB.2.1, hB.2.2, trivial⟩, (show TP D cA L T r σ ρ t.heap from by rw [ht]; exact hB.1)⟩, hS.F ht⟩) hS.2.2 dX11_count_97
    · skip
      have c_4x : p1 = 2 := i_is (by decide) c_4j
      subst c_4x
      have nnc_4 : (2 : Int32).toInt = 2 := by decide
      refine lv_tableIn (tgt := 98) hx hb dX11_count_17 (by decide) (by decide) rfl (by decide) ?_
      refine lv_aload_n hx hb dX11_count_98 rfl (lv_at hl 0 rfl) ?_
      refine t_gi hx hb hts hown hK hB mb_3 tb_3 fi_3_9 rfl mw_1_182 dX11_count_99 (fun x_7 ex_7 lx_7 ux_7 => ?_)
      have cx_7 := congrArg Int32.toInt ex_7
      exact W.iret (v := x_7) hx hb hr (fun t ht hW => ⟨⟨x_7, (σ, ρ), rfl, ⟨hB.2.1, hB.2.2, trivial⟩, (show TP D cA L T r σ ρ t.heap from by rw [ht]; exact hB.1)⟩, hS.F ht⟩) hS.2.2 dX11_count_102
    · skip
      have c_4x : p1 = 3 := i_is (by decide) c_4j
      subst c_4x
      have nnc_4 : (3 : Int32).toInt = 3 := by decide
      refine lv_tableIn (tgt := 103) hx hb dX11_count_17 (by decide) (by decide) rfl (by decide) ?_
      refine lv_aload_n hx hb dX11_count_103 rfl (lv_at hl 0 rfl) ?_
      refine t_gi hx hb hts hown hK hB mb_3 tb_3 fi_3_10 rfl mw_1_189 dX11_count_104 (fun x_8 ex_8 lx_8 ux_8 => ?_)
      have cx_8 := congrArg Int32.toInt ex_8
      exact W.iret (v := x_8) hx hb hr (fun t ht hW => ⟨⟨x_8, (σ, ρ), rfl, ⟨hB.2.1, hB.2.2, trivial⟩, (show TP D cA L T r σ ρ t.heap from by rw [ht]; exact hB.1)⟩, hS.F ht⟩) hS.2.2 dX11_count_107
    · skip
      have c_4x : p1 = 4 := i_is (by decide) c_4j
      subst c_4x
      have nnc_4 : (4 : Int32).toInt = 4 := by decide
      refine lv_tableIn (tgt := 108) hx hb dX11_count_17 (by decide) (by decide) rfl (by decide) ?_
      refine lv_aload_n hx hb dX11_count_108 rfl (lv_at hl 2 rfl) ?_
      refine t_gi hx hb hts hown hK hB mh0 th0 fi_11_10 rfl mw_2_217 dX11_count_109 (fun x_9 ex_9 lx_9 ux_9 => ?_)
      have cx_9 := congrArg Int32.toInt ex_9
      exact W.iret (v := x_9) hx hb hr (fun t ht hW => ⟨⟨x_9, (σ, ρ), rfl, ⟨hB.2.1, hB.2.2, trivial⟩, (show TP D cA L T r σ ρ t.heap from by rw [ht]; exact hB.1)⟩, hS.F ht⟩) hS.2.2 dX11_count_112
    · skip
      have c_4x : p1 = 5 := i_is (by decide) c_4j
      subst c_4x
      have nnc_4 : (5 : Int32).toInt = 5 := by decide
      refine lv_tableIn (tgt := 113) hx hb dX11_count_17 (by decide) (by decide) rfl (by decide) ?_
      refine lv_aload_n hx hb dX11_count_113 rfl (lv_at hl 2 rfl) ?_
      refine t_gk hx hb hts hown hK hB mh0 th0 fq_11_3 hb_1 mw_2_210 dX11_count_114 ?_
      refine t_gi hx hb hts hown hK hB mb_1 tb_1 fi_10_7 rfl mw_2_15 dX11_count_117 (fun x_10 ex_10 lx_10 ux_10 => ?_)
      have cx_10 := congrArg Int32.toInt ex_10
      exact W.iret (v := x_10) hx hb hr (fun t ht hW => ⟨⟨x_10, (σ, ρ), rfl, ⟨hB.2.1, hB.2.2, trivial⟩, (show TP D cA L T r σ ρ t.heap from by rw [ht]; exact hB.1)⟩, hS.F ht⟩) hS.2.2 dX11_count_120
    · skip
      have c_4x : p1 = 6 := i_is (by decide) c_4j
      subst c_4x
      have nnc_4 : (6 : Int32).toInt = 6 := by decide
      refine lv_tableIn (tgt := 121) hx hb dX11_count_17 (by decide) (by decide) rfl (by decide) ?_
      refine lv_aload_n hx hb dX11_count_121 rfl (lv_at hl 1 rfl) ?_
      refine t_gi hx hb hts hown hK hB mb_2 tb_2 fi_8_7 rfl mw_1_112 dX11_count_122 (fun x_11 ex_11 lx_11 ux_11 => ?_)
      have cx_11 := congrArg Int32.toInt ex_11
      exact W.iret (v := x_11) hx hb hr (fun t ht hW => ⟨⟨x_11, (σ, ρ), rfl, ⟨hB.2.1, hB.2.2, trivial⟩, (show TP D cA L T r σ ρ t.heap from by rw [ht]; exact hB.1)⟩, hS.F ht⟩) hS.2.2 dX11_count_125
    · skip
      have c_4x : p1 = 7 := i_is (by decide) c_4j
      subst c_4x
      have nnc_4 : (7 : Int32).toInt = 7 := by decide
      refine lv_tableIn (tgt := 126) hx hb dX11_count_17 (by decide) (by decide) rfl (by decide) ?_
      refine lv_aload_n hx hb dX11_count_126 rfl (lv_at hl 0 rfl) ?_
      refine lv_aload_n hx hb dX11_count_127 rfl (lv_at hl 1 rfl) ?_
      refine t_gi hx hb hts hown hK hB mb_2 tb_2 fi_8_6 rfl mw_1_109 dX11_count_128 (fun x_12 ex_12 lx_12 ux_12 => ?_)
      have cx_12 := congrArg Int32.toInt ex_12
      refine t_ci (va_runV (As := [.int x_12]) (rest := []) ⟨hx, hb, hml, hown, hts⟩ (cy_X3_turned l D cA L T r hG hLA.1 σ ρ hB.2.1 _ b_3 mb_3 tb_3 x_12) (cV hts mv_X3_turned mw_4_99 rfl rfl ⟨Nat.le_of_ble_eq_true rfl, Nat.le_of_ble_eq_true rfl⟩) (pV hB.1 hK hN mb_3 tb_3 (show shp cA 3 _ _ _ = .inr (3, Fs3 _ _ _) from rfl) rfl) rfl rfl hl.1 rfl (lv_room (Nat.le_of_ble_eq_true rfl)) dX11_count_131 ⟨Nat.le_of_ble_eq_true rfl, Nat.le_of_ble_eq_true rfl⟩) hLA hA hB hS (by decide) (fun x_15 σ_13 ρ_14 H locs hB fσ_13 pσ_13 hS => ?_)
      have qσ_13 := FR.nil fσ_13
      subst qσ_13
      exact W.iret (v := x_15) hx hb hr (fun t ht hW => ⟨⟨x_15, (σ, ρ_14), rfl, ⟨hB.2.1, hB.2.2, trivial⟩, (show TP D cA L T r σ ρ_14 t.heap from by rw [ht]; exact hB.1)⟩, hS.F ht⟩) hS.2.2 dX11_count_134
    · skip
      have c_4x : p1 = 8 := i_is (by decide) c_4j
      subst c_4x
      have nnc_4 : (8 : Int32).toInt = 8 := by decide
      refine lv_tableIn (tgt := 135) hx hb dX11_count_17 (by decide) (by decide) rfl (by decide) ?_
      refine lv_aload_n hx hb dX11_count_135 rfl (lv_at hl 1 rfl) ?_
      refine lv_aload_n hx hb dX11_count_136 rfl (lv_at hl 0 rfl) ?_
      refine t_ci (va_runV (As := [.ref b_3]) (rest := []) ⟨hx, hb, hml, hown, hts⟩ (cy_X8_atTop l D cA L T r hG hLA.1 σ ρ hB.2.1 _ b_2 mb_2 tb_2 b_3 mb_3 tb_3) (cV hts mv_X8_atTop mw_5_189 rfl rfl ⟨Nat.le_of_ble_eq_true rfl, Nat.le_of_ble_eq_true rfl⟩) (pV hB.1 hK hN mb_2 tb_2 (show shp cA 8 _ _ _ = .inr (8, Fs8 _ _ _) from rfl) rfl) rfl rfl hl.1 rfl (lv_room (Nat.le_of_ble_eq_true rfl)) dX11_count_137 ⟨Nat.le_of_ble_eq_true rfl, Nat.le_of_ble_eq_true rfl⟩) hLA hA hB hS (by decide) (fun x_18 σ_16 ρ_17 H locs hB fσ_16 pσ_16 hS => ?_)
      have qσ_16 := FR.nil fσ_16
      subst qσ_16
      exact W.iret (v := x_18) hx hb hr (fun t ht hW => ⟨⟨x_18, (σ, ρ_17), rfl, ⟨hB.2.1, hB.2.2, trivial⟩, (show TP D cA L T r σ ρ_17 t.heap from by rw [ht]; exact hB.1)⟩, hS.F ht⟩) hS.2.2 dX11_count_140
    · skip
      have c_4x : p1 = 9 := i_is (by decide) c_4j
      subst c_4x
      have nnc_4 : (9 : Int32).toInt = 9 := by decide
      refine lv_tableIn (tgt := 141) hx hb dX11_count_17 (by decide) (by decide) rfl (by decide) ?_
      refine lv_aload_n hx hb dX11_count_141 rfl (lv_at hl 1 rfl) ?_
      refine t_ci (va_runV (As := []) (rest := []) ⟨hx, hb, hml, hown, hts⟩ (cy_X8_lying l D cA L T r hG hLA.1 σ ρ hB.2.1 _ b_2 mb_2 tb_2) (cV hts mv_X8_lying mw_5_193 rfl rfl ⟨Nat.le_of_ble_eq_true rfl, Nat.le_of_ble_eq_true rfl⟩) (pV hB.1 hK hN mb_2 tb_2 (show shp cA 8 _ _ _ = .inr (8, Fs8 _ _ _) from rfl) rfl) rfl rfl hl.1 rfl (lv_room (Nat.le_of_ble_eq_true rfl)) dX11_count_142 ⟨Nat.le_of_ble_eq_true rfl, Nat.le_of_ble_eq_true rfl⟩) hLA hA hB hS (by decide) (fun x_21 σ_19 ρ_20 H locs hB fσ_19 pσ_19 hS => ?_)
      have qσ_19 := FR.nil fσ_19
      subst qσ_19
      exact W.iret (v := x_21) hx hb hr (fun t ht hW => ⟨⟨x_21, (σ, ρ_20), rfl, ⟨hB.2.1, hB.2.2, trivial⟩, (show TP D cA L T r σ ρ_20 t.heap from by rw [ht]; exact hB.1)⟩, hS.F ht⟩) hS.2.2 dX11_count_145
    · skip
      have c_4x : p1 = 10 := i_is (by decide) c_4j
      subst c_4x
      have nnc_4 : (10 : Int32).toInt = 10 := by decide
      refine lv_tableIn (tgt := 146) hx hb dX11_count_17 (by decide) (by decide) rfl (by decide) ?_
      refine lv_aload_n hx hb dX11_count_146 rfl (lv_at hl 2 rfl) ?_
      refine t_gk hx hb hts hown hK hB mh0 th0 fq_11_3 hb_1 mw_2_210 dX11_count_147 ?_
      refine t_gi hx hb hts hown hK hB mb_1 tb_1 fi_10_6 rfl mw_2_13 dX11_count_150 (fun x_22 ex_22 lx_22 ux_22 => ?_)
      have cx_22 := congrArg Int32.toInt ex_22
      exact W.iret (v := x_22) hx hb hr (fun t ht hW => ⟨⟨x_22, (σ, ρ), rfl, ⟨hB.2.1, hB.2.2, trivial⟩, (show TP D cA L T r σ ρ t.heap from by rw [ht]; exact hB.1)⟩, hS.F ht⟩) hS.2.2 dX11_count_153
    · skip
      have c_4x : p1 = 11 := i_is (by decide) c_4j
      subst c_4x
      have nnc_4 : (11 : Int32).toInt = 11 := by decide
      refine lv_tableIn (tgt := 154) hx hb dX11_count_17 (by decide) (by decide) rfl (by decide) ?_
      refine lv_aload_n hx hb dX11_count_154 rfl (lv_at hl 2 rfl) ?_
      refine t_gr hx hb hts hown hK hG hB mh0 th0 fq_11_5 rfl mw_2_212 dX11_count_155 (fun b_23 hb_23 mb_23 tb_23 => ?_)
      refine t_gi hx hb hts hown hK hB mb_23 tb_23 fi_5_1 rfl mw_2_50 dX11_count_158 (fun x_24 ex_24 lx_24 ux_24 => ?_)
      have cx_24 := congrArg Int32.toInt ex_24
      exact W.iret (v := x_24) hx hb hr (fun t ht hW => ⟨⟨x_24, (σ, ρ), rfl, ⟨hB.2.1, hB.2.2, trivial⟩, (show TP D cA L T r σ ρ t.heap from by rw [ht]; exact hB.1)⟩, hS.F ht⟩) hS.2.2 dX11_count_161
    · skip
      have c_4x : p1 = 12 := i_is (by decide) c_4j
      subst c_4x
      have nnc_4 : (12 : Int32).toInt = 12 := by decide
      refine lv_tableIn (tgt := 162) hx hb dX11_count_17 (by decide) (by decide) rfl (by decide) ?_
      refine lv_aload_n hx hb dX11_count_162 rfl (lv_at hl 2 rfl) ?_
      refine t_gk hx hb hts hown hK hB mh0 th0 fq_11_3 hb_1 mw_2_210 dX11_count_163 ?_
      refine t_gi hx hb hts hown hK hB mb_1 tb_1 fi_10_8 rfl mw_2_18 dX11_count_166 (fun x_25 ex_25 lx_25 ux_25 => ?_)
      have cx_25 := congrArg Int32.toInt ex_25
      exact W.iret (v := x_25) hx hb hr (fun t ht hW => ⟨⟨x_25, (σ, ρ), rfl, ⟨hB.2.1, hB.2.2, trivial⟩, (show TP D cA L T r σ ρ t.heap from by rw [ht]; exact hB.1)⟩, hS.F ht⟩) hS.2.2 dX11_count_169
    · skip
      have c_4x : p1 = 13 := i_is (by decide) c_4j
      subst c_4x
      have nnc_4 : (13 : Int32).toInt = 13 := by decide
      refine lv_tableIn (tgt := 170) hx hb dX11_count_17 (by decide) (by decide) rfl (by decide) ?_
      refine lv_aload_n hx hb dX11_count_170 rfl (lv_at hl 2 rfl) ?_
      refine t_gr hx hb hts hown hK hG hB mh0 th0 fq_11_0 rfl mw_2_207 dX11_count_171 (fun b_26 hb_26 mb_26 tb_26 => ?_)
      refine t_gi hx hb hts hown hK hB mb_26 tb_26 fi_9_4 rfl mw_1_40 dX11_count_174 (fun x_27 ex_27 lx_27 ux_27 => ?_)
      have cx_27 := congrArg Int32.toInt ex_27
      exact W.iret (v := x_27) hx hb hr (fun t ht hW => ⟨⟨x_27, (σ, ρ), rfl, ⟨hB.2.1, hB.2.2, trivial⟩, (show TP D cA L T r σ ρ t.heap from by rw [ht]; exact hB.1)⟩, hS.F ht⟩) hS.2.2 dX11_count_177
theorem mw_2_209 : (.fieldLink RX11 25 "HillBends" "rules" "[LHillBends$Rule;" : Cond) ∈ wsA := wsA_t (List.mem_append_right _ (List.mem_append_left _ (List.mem_of_getElem? (l := tables_1_2) (i := 209) rfl))) rfl
theorem dX11_ruleOf_0 : decode cX11_ruleOf 0 = .ok (.iload_n 1, 1) := by decide +kernel
theorem dX11_ruleOf_1 : decode cX11_ruleOf 1 = .ok (.ifCond .lt 20, 3) := by decide +kernel
theorem dX11_ruleOf_21 : decode cX11_ruleOf 21 = .ok (.aconst_null, 1) := by decide +kernel
theorem dX11_ruleOf_22 : decode cX11_ruleOf 22 = .ok (.areturn, 1) := by decide +kernel
theorem dX11_ruleOf_4 : decode cX11_ruleOf 4 = .ok (.iload_n 1, 1) := by decide +kernel
theorem dX11_ruleOf_5 : decode cX11_ruleOf 5 = .ok (.aload_n 0, 1) := by decide +kernel
theorem dX11_ruleOf_6 : decode cX11_ruleOf 6 = .ok (.getfield 110, 3) := by decide +kernel
theorem dX11_ruleOf_9 : decode cX11_ruleOf 9 = .ok (.if_icmp .ge 12, 3) := by decide +kernel
theorem dX11_ruleOf_12 : decode cX11_ruleOf 12 = .ok (.aload_n 0, 1) := by decide +kernel
theorem dX11_ruleOf_13 : decode cX11_ruleOf 13 = .ok (.getfield 25, 3) := by decide +kernel
theorem dX11_ruleOf_16 : decode cX11_ruleOf 16 = .ok (.iload_n 1, 1) := by decide +kernel
theorem dX11_ruleOf_17 : decode cX11_ruleOf 17 = .ok (.aaload, 1) := by decide +kernel
theorem dX11_ruleOf_18 : decode cX11_ruleOf 18 = .ok (.goto 4, 3) := by decide +kernel
set_option maxHeartbeats 4000000 in
set_option maxRecDepth 100000 in
theorem cy_X11_ruleOf (l : Launch) (D : va_G) (cA : Nat → ClassId) (L : List Nat) (T : Nat → Nat) (r : Rg) (hG : GR L T r) (hL : L.Nodup) (σ : Sg) (ρ : Lg) (hW : WT L ry T σ) (sz : Nat) (h0 : Nat) (mh0 : h0 ∈ L) (th0 : T h0 = 11) (p1 : Int32) : Met l yX11_ruleOf (.code yX11_ruleOf cX11_ruleOf 2 (some (.object "HillBends$Rule")) :: wsA) ({ frames := 0, cells := 0, slots := 0, locals := 0 }) (PR D cA L T r σ ρ sz [.ref h0, .int p1]) (QQ D cA L T r ry ([] : List (Nat × Nat)) σ sz (fun x σ1 => (∀ b : Nat, x = some b → b ∈ L ∧ T b = 7))) 0 0 (dm L sz) := by
  refine Met.ofW (cc := cX11_ruleOf) (maxL := 2) (ret := (some (.object "HillBends$Rule"))) (by decide) rfl ?_
  intro p e s m args below meth c s₁ B hml hv
  obtain ⟨rfl, hsz, hP, hK, hN⟩ := hv
  have hx := B.exec
  have hb := B.bytes
  have hr := B.returns
  have hts : ∀ w ∈ wsA, w.before _ s = true := fun w h => atoms_spec (ws := .code yX11_ruleOf cX11_ruleOf 2 (some (.object "HillBends$Rule")) :: wsA) B.pre w (List.mem_cons_of_mem _ h)
  have hown : s.vm.findClass RX11 = some m.cls := findClass_of_methodNamed B.named
  subst hsz
  have hLA : LA (dm L s.heap.size) L := ⟨hL, fun a h => Or.inl h⟩
  have hA : ∀ q : Nat, s.heap.size ≤ q → dm L s.heap.size q := fun q h => Or.inr h
  have hS : va_S (dm L s.heap.size) s.heap s.heap [] := va_S.rf
  have hB : TS D cA L T r ry ([] : List (Nat × Nat)) σ σ ρ s.heap := ⟨hP, hW, FR.rf⟩
  have hl := lv_entry ([.ref h0, .int p1]) (n := 2) (Nat.le_of_ble_eq_true rfl)
  rw [lg_entry_eq]
  generalize (lg_sl ([.ref h0, .int p1]) ++ List.replicate (2 - (lg_sl ([.ref h0, .int p1])).length) Slot.unset).toArray = ls at hl ⊢
  have hl : lv_has ls 2 [(0, .ref h0), (1, .int p1)] := hl
  refine lv_iload_n hx hb dX11_ruleOf_0 rfl (lv_at hl 1 rfl) ?_
  refine lv_if_lt (tgt := 21) hx hb dX11_ruleOf_1 (by decide) (fun c_1 => ?_) (fun c_1 => ?_)
  · skip
    have uc_1 := i_lt (n := 0) (by decide) c_1
    refine lv_null hx hb dX11_ruleOf_21 ?_
    exact W.aret (v := .null) hx hb hr (Or.inl ⟨_, rfl⟩) (Or.inl rfl) (fun t ht hW => ⟨⟨none, (σ, ρ), rfl, ⟨hB.2.1, hB.2.2, fun b h => by cases h⟩, (show TP D cA L T r σ ρ t.heap from by rw [ht]; exact hB.1)⟩, hS.F ht⟩) hS.2.2 dX11_ruleOf_22
  · skip
    have uc_1 := i_nlt (n := 0) (by decide) c_1
    refine lv_iload_n hx hb dX11_ruleOf_4 rfl (lv_at hl 1 rfl) ?_
    refine lv_aload_n hx hb dX11_ruleOf_5 rfl (lv_at hl 0 rfl) ?_
    refine t_gi hx hb hts hown hK hB mh0 th0 fi_11_10 rfl mw_2_217 dX11_ruleOf_6 (fun x_2 ex_2 lx_2 ux_2 => ?_)
    refine lv_icmp_ge (tgt := 21) hx hb dX11_ruleOf_9 (by decide) (fun c_3 => ?_) (fun c_3 => ?_)
    · skip
      have uc_3 := j_le c_3
      refine lv_null hx hb dX11_ruleOf_21 ?_
      exact W.aret (v := .null) hx hb hr (Or.inl ⟨_, rfl⟩) (Or.inl rfl) (fun t ht hW => ⟨⟨none, (σ, ρ), rfl, ⟨hB.2.1, hB.2.2, fun b h => by cases h⟩, (show TP D cA L T r σ ρ t.heap from by rw [ht]; exact hB.1)⟩, hS.F ht⟩) hS.2.2 dX11_ruleOf_22
    · skip
      have uc_3 := j_nle c_3
      refine lv_aload_n hx hb dX11_ruleOf_12 rfl (lv_at hl 0 rfl) ?_
      refine t_gr hx hb hts hown hK hG hB mh0 th0 fq_11_2 rfl mw_2_209 dX11_ruleOf_13 (fun b_4 hb_4 mb_4 tb_4 => ?_)
      refine lv_iload_n hx hb dX11_ruleOf_16 rfl (lv_at hl 1 rfl) ?_
      refine t_aq hx hb hK hG hB mb_4 tb_4 aq_59 rfl (i_in (by omega) (by omega)) dX11_ruleOf_17 (fun b_5 hb_5 mb_5 tb_5 => ?_)
      refine lv_goto (tgt := 22) hx hb dX11_ruleOf_18 (by decide) ?_
      exact W.aret (v := (.ref b_5)) hx hb hr (Or.inl ⟨_, rfl⟩) (Or.inr ⟨_, rfl⟩) (fun t ht hW => ⟨⟨(some b_5), (σ, ρ), rfl, ⟨hB.2.1, hB.2.2, fun b h => by cases h; exact ⟨mb_5, tb_5⟩⟩, (show TP D cA L T r σ ρ t.heap from by rw [ht]; exact hB.1)⟩, hS.F ht⟩) hS.2.2 dX11_ruleOf_22
theorem mw_2_213 : (.fieldLink RX11 50 "HillBends" "nights" "LHillBends$Nights;" : Cond) ∈ wsA := wsA_t (List.mem_append_right _ (List.mem_append_left _ (List.mem_of_getElem? (l := tables_1_2) (i := 213) rfl))) rfl
theorem mw_4_112 : (.instanceMethod yX11_ruleOf : Cond) ∈ wsA := wsA_t (List.mem_append_right _ (List.mem_append_right _ (List.mem_append_right _ (List.mem_append_left _ (List.mem_of_getElem? (l := tables_1_4) (i := 112) rfl))))) rfl
theorem mp_2_9 : (.selects RX11 yX11_ruleOf yX11_ruleOf : Cond) ∈ wsA := wsA_p (q := (yX11_ruleOf, 12)) (List.mem_append_right _ (List.mem_append_left _ (List.mem_of_getElem? (l := lw_privs_2) (i := 9) rfl)))
theorem mw_4_113 : (.code yX11_ruleOf cX11_ruleOf 2 (some (.object "HillBends$Rule")) : Cond) ∈ wsA := wsA_t (List.mem_append_right _ (List.mem_append_right _ (List.mem_append_right _ (List.mem_append_left _ (List.mem_of_getElem? (l := tables_1_4) (i := 113) rfl))))) rfl
theorem mw_4_110 : (.methodLink RX11 192 yX11_ruleOf : Cond) ∈ wsA := wsA_t (List.mem_append_right _ (List.mem_append_right _ (List.mem_append_right _ (List.mem_append_left _ (List.mem_of_getElem? (l := tables_1_4) (i := 110) rfl))))) rfl
theorem mw_4_114 : (.methodLink RX11 196 yX6_pass : Cond) ∈ wsA := wsA_t (List.mem_append_right _ (List.mem_append_right _ (List.mem_append_right _ (List.mem_append_left _ (List.mem_of_getElem? (l := tables_1_4) (i := 114) rfl))))) rfl
theorem dX11_night_0 : decode cX11_night 0 = .ok (.aload_n 0, 1) := by decide +kernel
theorem dX11_night_1 : decode cX11_night 1 = .ok (.getfield 32, 3) := by decide +kernel
theorem dX11_night_4 : decode cX11_night 4 = .ok (.getfield 121, 3) := by decide +kernel
theorem dX11_night_7 : decode cX11_night 7 = .ok (.astore_n 1, 1) := by decide +kernel
theorem dX11_night_8 : decode cX11_night 8 = .ok (.aload_n 0, 1) := by decide +kernel
theorem dX11_night_9 : decode cX11_night 9 = .ok (.getfield 32, 3) := by decide +kernel
theorem dX11_night_12 : decode cX11_night 12 = .ok (.getfield 102, 3) := by decide +kernel
theorem dX11_night_15 : decode cX11_night 15 = .ok (.getfield 178, 3) := by decide +kernel
theorem dX11_night_18 : decode cX11_night 18 = .ok (.ifCond .eq 13, 3) := by decide +kernel
theorem dX11_night_31 : decode cX11_night 31 = .ok (.iconst (-1), 1) := by decide +kernel
theorem dX11_night_32 : decode cX11_night 32 = .ok (.ireturn, 1) := by decide +kernel
theorem dX11_night_21 : decode cX11_night 21 = .ok (.aload_n 1, 1) := by decide +kernel
theorem dX11_night_22 : decode cX11_night 22 = .ok (.getfield 181, 3) := by decide +kernel
theorem dX11_night_25 : decode cX11_night 25 = .ok (.sipush 999, 3) := by decide +kernel
theorem dX11_night_28 : decode cX11_night 28 = .ok (.if_icmp .lt 5, 3) := by decide +kernel
theorem dX11_night_33 : decode cX11_night 33 = .ok (.aload_n 0, 1) := by decide +kernel
theorem dX11_night_34 : decode cX11_night 34 = .ok (.getfield 32, 3) := by decide +kernel
theorem dX11_night_37 : decode cX11_night 37 = .ok (.getfield 102, 3) := by decide +kernel
theorem dX11_night_40 : decode cX11_night 40 = .ok (.aload_n 1, 1) := by decide +kernel
theorem dX11_night_41 : decode cX11_night 41 = .ok (.getfield 156, 3) := by decide +kernel
theorem dX11_night_44 : decode cX11_night 44 = .ok (.invokevirtual 184, 3) := by decide +kernel
theorem dX11_night_47 : decode cX11_night 47 = .ok (.istore_n 2, 1) := by decide +kernel
theorem dX11_night_48 : decode cX11_night 48 = .ok (.aload_n 0, 1) := by decide +kernel
theorem dX11_night_49 : decode cX11_night 49 = .ok (.getfield 43, 3) := by decide +kernel
theorem dX11_night_52 : decode cX11_night 52 = .ok (.aload_n 1, 1) := by decide +kernel
theorem dX11_night_53 : decode cX11_night 53 = .ok (.invokevirtual 188, 3) := by decide +kernel
theorem dX11_night_56 : decode cX11_night 56 = .ok (.aload_n 0, 1) := by decide +kernel
theorem dX11_night_57 : decode cX11_night 57 = .ok (.getfield 50, 3) := by decide +kernel
theorem dX11_night_60 : decode cX11_night 60 = .ok (.aload_n 0, 1) := by decide +kernel
theorem dX11_night_61 : decode cX11_night 61 = .ok (.getfield 32, 3) := by decide +kernel
theorem dX11_night_64 : decode cX11_night 64 = .ok (.getfield 102, 3) := by decide +kernel
theorem dX11_night_67 : decode cX11_night 67 = .ok (.aload_n 1, 1) := by decide +kernel
theorem dX11_night_68 : decode cX11_night 68 = .ok (.aload_n 0, 1) := by decide +kernel
theorem dX11_night_69 : decode cX11_night 69 = .ok (.aload_n 0, 1) := by decide +kernel
theorem dX11_night_70 : decode cX11_night 70 = .ok (.getfield 32, 3) := by decide +kernel
theorem dX11_night_73 : decode cX11_night 73 = .ok (.getfield 114, 3) := by decide +kernel
theorem dX11_night_76 : decode cX11_night 76 = .ok (.invokevirtual 192, 3) := by decide +kernel
theorem dX11_night_79 : decode cX11_night 79 = .ok (.invokevirtual 196, 3) := by decide +kernel
theorem dX11_night_82 : decode cX11_night 82 = .ok (.iload_n 2, 1) := by decide +kernel
theorem dX11_night_83 : decode cX11_night 83 = .ok (.aload_n 0, 1) := by decide +kernel
theorem dX11_night_84 : decode cX11_night 84 = .ok (.getfield 32, 3) := by decide +kernel
theorem dX11_night_87 : decode cX11_night 87 = .ok (.getfield 102, 3) := by decide +kernel
theorem dX11_night_90 : decode cX11_night 90 = .ok (.aload_n 1, 1) := by decide +kernel
theorem dX11_night_91 : decode cX11_night 91 = .ok (.getfield 156, 3) := by decide +kernel
theorem dX11_night_94 : decode cX11_night 94 = .ok (.invokevirtual 184, 3) := by decide +kernel
theorem dX11_night_97 : decode cX11_night 97 = .ok (.ixor, 1) := by decide +kernel
theorem dX11_night_98 : decode cX11_night 98 = .ok (.ireturn, 1) := by decide +kernel
theorem mv_X11_ruleOf : MV RX11 yX11_ruleOf cX11_ruleOf 2 (some (.object "HillBends$Rule")) 1 := ⟨mw_4_112, mp_2_9, mw_1_1, mw_4_113, ⟨rfl, by decide, by decide, by decide +kernel⟩⟩
set_option maxHeartbeats 4000000 in
set_option maxRecDepth 100000 in
theorem cy_X11_night (l : Launch) (D : va_G) (cA : Nat → ClassId) (L : List Nat) (T : Nat → Nat) (r : Rg) (hG : GR L T r) (hL : L.Nodup) (σ : Sg) (ρ : Lg) (hW : WT L ry T σ) (sz : Nat) (h0 : Nat) (mh0 : h0 ∈ L) (th0 : T h0 = 11) : Met l yX11_night (.code yX11_night cX11_night 3 (some .int) :: wsA) ({ frames := 4, cells := 0, slots := 0, locals := 142 }) (PR D cA L T r σ ρ sz [.ref h0]) (QI D cA L T r ry [(5, 1), (5, 2), (8, 6), (8, 7), (102, 6), (102, 7), (119, 1000), (120, 1000), (121, 1000), (122, 1000), (123, 1000), (124, 1000)] σ sz (fun x σ1 => True)) 0 0 (dm L sz) := by
  refine Met.ofW (cc := cX11_night) (maxL := 3) (ret := (some .int)) (by decide) rfl ?_
  intro p e s m args below meth c s₁ B hml hv
  obtain ⟨rfl, hsz, hP, hK, hN⟩ := hv
  have hx := B.exec
  have hb := B.bytes
  have hr := B.returns
  have hts : ∀ w ∈ wsA, w.before _ s = true := fun w h => atoms_spec (ws := .code yX11_night cX11_night 3 (some .int) :: wsA) B.pre w (List.mem_cons_of_mem _ h)
  have hown : s.vm.findClass RX11 = some m.cls := findClass_of_methodNamed B.named
  subst hsz
  have hLA : LA (dm L s.heap.size) L := ⟨hL, fun a h => Or.inl h⟩
  have hA : ∀ q : Nat, s.heap.size ≤ q → dm L s.heap.size q := fun q h => Or.inr h
  have hS : va_S (dm L s.heap.size) s.heap s.heap [] := va_S.rf
  have hB : TS D cA L T r ry [(5, 1), (5, 2), (8, 6), (8, 7), (102, 6), (102, 7), (119, 1000), (120, 1000), (121, 1000), (122, 1000), (123, 1000), (124, 1000)] σ σ ρ s.heap := ⟨hP, hW, FR.rf⟩
  have hl := lv_entry ([.ref h0]) (n := 3) (Nat.le_of_ble_eq_true rfl)
  rw [lg_entry_eq]
  generalize (lg_sl ([.ref h0]) ++ List.replicate (3 - (lg_sl ([.ref h0])).length) Slot.unset).toArray = ls at hl ⊢
  have hl : lv_has ls 3 [(0, .ref h0)] := hl
  refine lv_aload_n hx hb dX11_night_0 rfl (lv_at hl 0 rfl) ?_
  refine t_gr hx hb hts hown hK hG hB mh0 th0 fq_11_3 rfl mw_2_210 dX11_night_1 (fun b_1 hb_1 mb_1 tb_1 => ?_)
  refine t_gr hx hb hts hown hK hG hB mb_1 tb_1 fq_10_1 rfl mw_1_239 dX11_night_4 (fun b_2 hb_2 mb_2 tb_2 => ?_)
  refine lv_astore_n (lv' := [(1, .ref b_2), (0, .ref h0)]) hx hb dX11_night_7 rfl hl (by decide) rfl (fun ls hl => ?_)
  refine lv_aload_n hx hb dX11_night_8 rfl (lv_at hl 1 rfl) ?_
  refine t_gk hx hb hts hown hK hB mh0 th0 fq_11_3 hb_1 mw_2_210 dX11_night_9 ?_
  refine t_gr hx hb hts hown hK hG hB mb_1 tb_1 fq_10_0 rfl mw_1_236 dX11_night_12 (fun b_3 hb_3 mb_3 tb_3 => ?_)
  refine t_gi hx hb hts hown hK hB mb_3 tb_3 fi_3_6 rfl mw_1_164 dX11_night_15 (fun x_4 ex_4 lx_4 ux_4 => ?_)
  have cx_4 := congrArg Int32.toInt ex_4
  refine lv_if_eq (tgt := 31) hx hb dX11_night_18 (by decide) (fun c_5 => ?_) (fun c_5 => ?_)
  · skip
    have uc_5 := i_eq (n := 0) (by decide) c_5
    refine lv_iconst (v := (-1)) hx hb dX11_night_31 (by decide) ?_
    exact W.iret (v := (-1)) hx hb hr (fun t ht hW => ⟨⟨(-1), (σ, ρ), rfl, ⟨hB.2.1, hB.2.2, trivial⟩, (show TP D cA L T r σ ρ t.heap from by rw [ht]; exact hB.1)⟩, hS.F ht⟩) hS.2.2 dX11_night_32
  · skip
    have uc_5 := i_ne (n := 0) (by decide) c_5
    refine lv_aload_n hx hb dX11_night_21 rfl (lv_at hl 0 rfl) ?_
    refine t_gi hx hb hts hown hK hB mb_2 tb_2 fi_8_7 rfl mw_1_112 dX11_night_22 (fun x_6 ex_6 lx_6 ux_6 => ?_)
    have cx_6 := congrArg Int32.toInt ex_6
    refine lv_sipush (v := 999) hx hb dX11_night_25 (by decide) ?_
    refine lv_icmp_lt (tgt := 33) hx hb dX11_night_28 (by decide) (fun c_7 => ?_) (fun c_7 => ?_)
    · skip
      have uc_7 := i_lt (n := 999) (by decide) c_7
      refine lv_aload_n hx hb dX11_night_33 rfl (lv_at hl 1 rfl) ?_
      refine t_gk hx hb hts hown hK hB mh0 th0 fq_11_3 hb_1 mw_2_210 dX11_night_34 ?_
      refine t_gk hx hb hts hown hK hB mb_1 tb_1 fq_10_0 hb_3 mw_1_236 dX11_night_37 ?_
      refine lv_aload_n hx hb dX11_night_40 rfl (lv_at hl 0 rfl) ?_
      refine t_gi hx hb hts hown hK hB mb_2 tb_2 fi_8_6 rfl mw_1_109 dX11_night_41 (fun x_8 ex_8 lx_8 ux_8 => ?_)
      have cx_8 := congrArg Int32.toInt ex_8
      refine t_ci (va_runV (As := [.int x_8]) (rest := []) ⟨hx, hb, hml, hown, hts⟩ (cy_X3_turned l D cA L T r hG hLA.1 σ ρ hB.2.1 _ b_3 mb_3 tb_3 x_8) (cV hts mv_X3_turned mw_4_99 rfl rfl ⟨Nat.le_of_ble_eq_true rfl, Nat.le_of_ble_eq_true rfl⟩) (pV hB.1 hK hN mb_3 tb_3 (show shp cA 3 _ _ _ = .inr (3, Fs3 _ _ _) from rfl) rfl) rfl rfl hl.1 rfl (lv_room (Nat.le_of_ble_eq_true rfl)) dX11_night_44 ⟨Nat.le_of_ble_eq_true rfl, Nat.le_of_ble_eq_true rfl⟩) hLA hA hB hS (by decide) (fun x_11 σ_9 ρ_10 H locs hB fσ_9 pσ_9 hS => ?_)
      have qσ_9 := FR.nil fσ_9
      subst qσ_9
      refine lv_istore_n (lv' := [(2, .int x_11), (1, .ref b_2), (0, .ref h0)]) hx hb dX11_night_47 rfl hl (by decide) rfl (fun ls hl => ?_)
      refine lv_aload_n hx hb dX11_night_48 rfl (lv_at hl 2 rfl) ?_
      refine t_gr hx hb hts hown hK hG hB mh0 th0 fq_11_5 rfl mw_2_212 dX11_night_49 (fun b_12 hb_12 mb_12 tb_12 => ?_)
      refine lv_aload_n hx hb dX11_night_52 rfl (lv_at hl 1 rfl) ?_
      refine t_cv (va_runV (As := [.ref b_2]) (rest := []) ⟨hx, hb, hml, hown, hts⟩ (cy_X5_keep l D cA L T r hG hLA.1 σ ρ_10 hB.2.1 _ b_12 mb_12 tb_12 b_2 mb_2 tb_2) (cV hts mv_X5_keep mw_4_104 rfl rfl ⟨Nat.le_of_ble_eq_true rfl, Nat.le_of_ble_eq_true rfl⟩) (pV hB.1 hK hN mb_12 tb_12 (show shp cA 5 _ _ _ = .inr (5, Fs5 _ _ _) from rfl) rfl) rfl rfl hl.1 rfl (lv_room (Nat.le_of_ble_eq_true rfl)) dX11_night_53 ⟨Nat.le_of_ble_eq_true rfl, Nat.le_of_ble_eq_true rfl⟩) hLA hA hB hS (by decide) (fun σ_13 ρ_14 H locs hB fσ_13 pσ_13 hS => ?_)
      refine lv_aload_n hx hb dX11_night_56 rfl (lv_at hl 2 rfl) ?_
      refine t_gr hx hb hts hown hK hG hB mh0 th0 fq_11_6 rfl mw_2_213 dX11_night_57 (fun b_16 hb_16 mb_16 tb_16 => ?_)
      refine lv_aload_n hx hb dX11_night_60 rfl (lv_at hl 2 rfl) ?_
      refine t_gk hx hb hts hown hK hB mh0 th0 fq_11_3 hb_1 mw_2_210 dX11_night_61 ?_
      refine t_gk hx hb hts hown hK hB mb_1 tb_1 fq_10_0 hb_3 mw_1_236 dX11_night_64 ?_
      refine lv_aload_n hx hb dX11_night_67 rfl (lv_at hl 1 rfl) ?_
      refine lv_aload_n hx hb dX11_night_68 rfl (lv_at hl 2 rfl) ?_
      refine lv_aload_n hx hb dX11_night_69 rfl (lv_at hl 2 rfl) ?_
      refine t_gk hx hb hts hown hK hB mh0 th0 fq_11_3 hb_1 mw_2_210 dX11_night_70 ?_
      refine t_gi hx hb hts hown hK hB mb_1 tb_1 fi_10_7 rfl mw_2_15 dX11_night_73 (fun x_17 ex_17 lx_17 ux_17 => ?_)
      have cx_17 := congrArg Int32.toInt ex_17
      refine t_cq (va_runV (As := [.int x_17]) (rest := [.ref b_2, .ref b_3, .ref b_16]) ⟨hx, hb, hml, hown, hts⟩ (cy_X11_ruleOf l D cA L T r hG hLA.1 σ_13 ρ_14 hB.2.1 _ h0 mh0 th0 x_17) (cV hts mv_X11_ruleOf mw_4_110 rfl rfl ⟨Nat.le_of_ble_eq_true rfl, Nat.le_of_ble_eq_true rfl⟩) (pV hB.1 hK hN mh0 th0 (show shp cA 11 _ _ _ = .inr (11, Fs11 _ _ _) from rfl) rfl) rfl rfl hl.1 rfl (lv_room (Nat.le_of_ble_eq_true rfl)) dX11_night_76 ⟨Nat.le_of_ble_eq_true rfl, Nat.le_of_ble_eq_true rfl⟩) hLA hA hB hS (by decide) (fun x_20 σ_18 ρ_19 H locs hB fσ_18 pσ_18 hS => ?_)
      have qσ_18 := FR.nil fσ_18
      subst qσ_18
      rcases x_20 with _ | bx_20
      · skip
        refine W.eq (g2 := F0 m 79 ls [.null, .ref b_2, .ref b_3, .ref b_16]) rfl ?_
        refine t_cv (va_runV (As := [.ref b_3, .ref b_2, .null]) (rest := []) ⟨hx, hb, hml, hown, hts⟩ (cy_X6_pass_8_0 l D cA L T r hG hLA.1 σ_13 ρ_19 hB.2.1 _ b_16 mb_16 tb_16 b_3 mb_3 tb_3 b_2 mb_2 tb_2) (cV hts mv_X6_pass mw_4_114 rfl rfl ⟨Nat.le_of_ble_eq_true rfl, Nat.le_of_ble_eq_true rfl⟩) (pV hB.1 hK hN mb_16 tb_16 (show shp cA 6 _ _ _ = .inr (6, Fs6 _ _ _) from rfl) rfl) rfl rfl hl.1 rfl (lv_room (Nat.le_of_ble_eq_true rfl)) dX11_night_79 ⟨Nat.le_of_ble_eq_true rfl, Nat.le_of_ble_eq_true rfl⟩) hLA hA hB hS (by decide) (fun σ_21 ρ_22 H locs hB fσ_21 pσ_21 hS => ?_)
        refine lv_iload_n hx hb dX11_night_82 rfl (lv_at hl 0 rfl) ?_
        refine lv_aload_n hx hb dX11_night_83 rfl (lv_at hl 2 rfl) ?_
        refine t_gk hx hb hts hown hK hB mh0 th0 fq_11_3 hb_1 mw_2_210 dX11_night_84 ?_
        refine t_gk hx hb hts hown hK hB mb_1 tb_1 fq_10_0 hb_3 mw_1_236 dX11_night_87 ?_
        refine lv_aload_n hx hb dX11_night_90 rfl (lv_at hl 1 rfl) ?_
        refine t_gi hx hb hts hown hK hB mb_2 tb_2 fi_8_6 rfl mw_1_109 dX11_night_91 (fun x_24 ex_24 lx_24 ux_24 => ?_)
        have cx_24 := congrArg Int32.toInt ex_24
        refine t_ci (va_runV (As := [.int x_24]) (rest := [.int x_11]) ⟨hx, hb, hml, hown, hts⟩ (cy_X3_turned l D cA L T r hG hLA.1 σ_21 ρ_22 hB.2.1 _ b_3 mb_3 tb_3 x_24) (cV hts mv_X3_turned mw_4_99 rfl rfl ⟨Nat.le_of_ble_eq_true rfl, Nat.le_of_ble_eq_true rfl⟩) (pV hB.1 hK hN mb_3 tb_3 (show shp cA 3 _ _ _ = .inr (3, Fs3 _ _ _) from rfl) rfl) rfl rfl hl.1 rfl (lv_room (Nat.le_of_ble_eq_true rfl)) dX11_night_94 ⟨Nat.le_of_ble_eq_true rfl, Nat.le_of_ble_eq_true rfl⟩) hLA hA hB hS (by decide) (fun x_27 σ_25 ρ_26 H locs hB fσ_25 pσ_25 hS => ?_)
        have qσ_25 := FR.nil fσ_25
        subst qσ_25
        refine lv_ixor hx hb dX11_night_97 ?_
        refine lv_topi (fun x_28 ex_28 => ?_)
        exact W.iret (v := x_28) hx hb hr (fun t ht hW => ⟨⟨x_28, (σ_21, ρ_26), rfl, ⟨hB.2.1, hB.2.2, trivial⟩, (show TP D cA L T r σ_21 ρ_26 t.heap from by rw [ht]; exact hB.1)⟩, hS.F ht⟩) hS.2.2 dX11_night_98
      · skip
        obtain ⟨mbx_20, tbx_20⟩ := pσ_18 _ rfl
        refine W.eq (g2 := F0 m 79 ls [.ref bx_20, .ref b_2, .ref b_3, .ref b_16]) rfl ?_
        refine t_cv (va_runV (As := [.ref b_3, .ref b_2, .ref bx_20]) (rest := []) ⟨hx, hb, hml, hown, hts⟩ (cy_X6_pass_8_7 l D cA L T r hG hLA.1 σ_13 ρ_19 hB.2.1 _ b_16 mb_16 tb_16 b_3 mb_3 tb_3 b_2 mb_2 tb_2 bx_20 mbx_20 tbx_20) (cV hts mv_X6_pass mw_4_114 rfl rfl ⟨Nat.le_of_ble_eq_true rfl, Nat.le_of_ble_eq_true rfl⟩) (pV hB.1 hK hN mb_16 tb_16 (show shp cA 6 _ _ _ = .inr (6, Fs6 _ _ _) from rfl) rfl) rfl rfl hl.1 rfl (lv_room (Nat.le_of_ble_eq_true rfl)) dX11_night_79 ⟨Nat.le_of_ble_eq_true rfl, Nat.le_of_ble_eq_true rfl⟩) hLA hA hB hS (by decide) (fun σ_29 ρ_30 H locs hB fσ_29 pσ_29 hS => ?_)
        refine lv_iload_n hx hb dX11_night_82 rfl (lv_at hl 0 rfl) ?_
        refine lv_aload_n hx hb dX11_night_83 rfl (lv_at hl 2 rfl) ?_
        refine t_gk hx hb hts hown hK hB mh0 th0 fq_11_3 hb_1 mw_2_210 dX11_night_84 ?_
        refine t_gk hx hb hts hown hK hB mb_1 tb_1 fq_10_0 hb_3 mw_1_236 dX11_night_87 ?_
        refine lv_aload_n hx hb dX11_night_90 rfl (lv_at hl 1 rfl) ?_
        refine t_gi hx hb hts hown hK hB mb_2 tb_2 fi_8_6 rfl mw_1_109 dX11_night_91 (fun x_32 ex_32 lx_32 ux_32 => ?_)
        have cx_32 := congrArg Int32.toInt ex_32
        refine t_ci (va_runV (As := [.int x_32]) (rest := [.int x_11]) ⟨hx, hb, hml, hown, hts⟩ (cy_X3_turned l D cA L T r hG hLA.1 σ_29 ρ_30 hB.2.1 _ b_3 mb_3 tb_3 x_32) (cV hts mv_X3_turned mw_4_99 rfl rfl ⟨Nat.le_of_ble_eq_true rfl, Nat.le_of_ble_eq_true rfl⟩) (pV hB.1 hK hN mb_3 tb_3 (show shp cA 3 _ _ _ = .inr (3, Fs3 _ _ _) from rfl) rfl) rfl rfl hl.1 rfl (lv_room (Nat.le_of_ble_eq_true rfl)) dX11_night_94 ⟨Nat.le_of_ble_eq_true rfl, Nat.le_of_ble_eq_true rfl⟩) hLA hA hB hS (by decide) (fun x_35 σ_33 ρ_34 H locs hB fσ_33 pσ_33 hS => ?_)
        have qσ_33 := FR.nil fσ_33
        subst qσ_33
        refine lv_ixor hx hb dX11_night_97 ?_
        refine lv_topi (fun x_36 ex_36 => ?_)
        exact W.iret (v := x_36) hx hb hr (fun t ht hW => ⟨⟨x_36, (σ_29, ρ_34), rfl, ⟨hB.2.1, hB.2.2, trivial⟩, (show TP D cA L T r σ_29 ρ_34 t.heap from by rw [ht]; exact hB.1)⟩, hS.F ht⟩) hS.2.2 dX11_night_98
    · skip
      have uc_7 := i_nlt (n := 999) (by decide) c_7
      refine lv_iconst (v := (-1)) hx hb dX11_night_31 (by decide) ?_
      exact W.iret (v := (-1)) hx hb hr (fun t ht hW => ⟨⟨(-1), (σ, ρ), rfl, ⟨hB.2.1, hB.2.2, trivial⟩, (show TP D cA L T r σ ρ t.heap from by rw [ht]; exact hB.1)⟩, hS.F ht⟩) hS.2.2 dX11_night_32
theorem mw_5_170 : (.instanceMethod yX6_runYears : Cond) ∈ wsA := wsA_t (List.mem_append_right _ (List.mem_append_right _ (List.mem_append_right _ (List.mem_append_right _ (List.mem_append_left _ (List.mem_of_getElem? (l := tables_1_5) (i := 170) rfl)))))) rfl
theorem mw_5_171 : (.selects RX6 yX6_runYears yX6_runYears : Cond) ∈ wsA := wsA_t (List.mem_append_right _ (List.mem_append_right _ (List.mem_append_right _ (List.mem_append_right _ (List.mem_append_left _ (List.mem_of_getElem? (l := tables_1_5) (i := 171) rfl)))))) rfl
theorem mw_5_172 : (.code yX6_runYears cX6_runYears 7 none : Cond) ∈ wsA := wsA_t (List.mem_append_right _ (List.mem_append_right _ (List.mem_append_right _ (List.mem_append_right _ (List.mem_append_left _ (List.mem_of_getElem? (l := tables_1_5) (i := 172) rfl)))))) rfl
theorem mw_5_169 : (.methodLink RX11 337 yX6_runYears : Cond) ∈ wsA := wsA_t (List.mem_append_right _ (List.mem_append_right _ (List.mem_append_right _ (List.mem_append_right _ (List.mem_append_left _ (List.mem_of_getElem? (l := tables_1_5) (i := 169) rfl)))))) rfl
theorem mw_2_74 : (.fieldLink RX11 344 "HillBends$Nights" "things" "I" : Cond) ∈ wsA := wsA_t (List.mem_append_right _ (List.mem_append_left _ (List.mem_of_getElem? (l := tables_1_2) (i := 74) rfl))) rfl
theorem mw_2_72 : (.fieldLink RX11 341 "HillBends$Nights" "heights" "I" : Cond) ∈ wsA := wsA_t (List.mem_append_right _ (List.mem_append_left _ (List.mem_of_getElem? (l := tables_1_2) (i := 72) rfl))) rfl
theorem dX11_years_0 : decode cX11_years 0 = .ok (.aload_n 0, 1) := by decide +kernel
theorem dX11_years_1 : decode cX11_years 1 = .ok (.getfield 32, 3) := by decide +kernel
theorem dX11_years_4 : decode cX11_years 4 = .ok (.getfield 102, 3) := by decide +kernel
theorem dX11_years_7 : decode cX11_years 7 = .ok (.getfield 178, 3) := by decide +kernel
theorem dX11_years_10 : decode cX11_years 10 = .ok (.ifCond .eq 34, 3) := by decide +kernel
theorem dX11_years_44 : decode cX11_years 44 = .ok (.iconst (-1), 1) := by decide +kernel
theorem dX11_years_45 : decode cX11_years 45 = .ok (.ireturn, 1) := by decide +kernel
theorem dX11_years_13 : decode cX11_years 13 = .ok (.iload_n 1, 1) := by decide +kernel
theorem dX11_years_14 : decode cX11_years 14 = .ok (.iconst 1, 1) := by decide +kernel
theorem dX11_years_15 : decode cX11_years 15 = .ok (.if_icmp .lt 29, 3) := by decide +kernel
theorem dX11_years_18 : decode cX11_years 18 = .ok (.iload_n 1, 1) := by decide +kernel
theorem dX11_years_19 : decode cX11_years 19 = .ok (.bipush 10, 2) := by decide +kernel
theorem dX11_years_21 : decode cX11_years 21 = .ok (.if_icmp .gt 23, 3) := by decide +kernel
theorem dX11_years_24 : decode cX11_years 24 = .ok (.iload_n 2, 1) := by decide +kernel
theorem dX11_years_25 : decode cX11_years 25 = .ok (.iconst 1, 1) := by decide +kernel
theorem dX11_years_26 : decode cX11_years 26 = .ok (.if_icmp .lt 18, 3) := by decide +kernel
theorem dX11_years_29 : decode cX11_years 29 = .ok (.iload_n 2, 1) := by decide +kernel
theorem dX11_years_30 : decode cX11_years 30 = .ok (.bipush 60, 2) := by decide +kernel
theorem dX11_years_32 : decode cX11_years 32 = .ok (.if_icmp .gt 12, 3) := by decide +kernel
theorem dX11_years_35 : decode cX11_years 35 = .ok (.iload_n 3, 1) := by decide +kernel
theorem dX11_years_36 : decode cX11_years 36 = .ok (.ifCond .lt 8, 3) := by decide +kernel
theorem dX11_years_39 : decode cX11_years 39 = .ok (.iload_n 3, 1) := by decide +kernel
theorem dX11_years_40 : decode cX11_years 40 = .ok (.iconst 1, 1) := by decide +kernel
theorem dX11_years_41 : decode cX11_years 41 = .ok (.if_icmp .le 5, 3) := by decide +kernel
theorem dX11_years_46 : decode cX11_years 46 = .ok (.aload_n 0, 1) := by decide +kernel
theorem dX11_years_47 : decode cX11_years 47 = .ok (.getfield 50, 3) := by decide +kernel
theorem dX11_years_50 : decode cX11_years 50 = .ok (.aload_n 0, 1) := by decide +kernel
theorem dX11_years_51 : decode cX11_years 51 = .ok (.getfield 32, 3) := by decide +kernel
theorem dX11_years_54 : decode cX11_years 54 = .ok (.aload_n 0, 1) := by decide +kernel
theorem dX11_years_55 : decode cX11_years 55 = .ok (.aload_n 0, 1) := by decide +kernel
theorem dX11_years_56 : decode cX11_years 56 = .ok (.getfield 32, 3) := by decide +kernel
theorem dX11_years_59 : decode cX11_years 59 = .ok (.getfield 114, 3) := by decide +kernel
theorem dX11_years_62 : decode cX11_years 62 = .ok (.invokevirtual 192, 3) := by decide +kernel
theorem dX11_years_65 : decode cX11_years 65 = .ok (.iload_n 1, 1) := by decide +kernel
theorem dX11_years_66 : decode cX11_years 66 = .ok (.iload_n 2, 1) := by decide +kernel
theorem dX11_years_67 : decode cX11_years 67 = .ok (.invokevirtual 337, 3) := by decide +kernel
theorem dX11_years_70 : decode cX11_years 70 = .ok (.iload_n 3, 1) := by decide +kernel
theorem dX11_years_71 : decode cX11_years 71 = .ok (.ifCond .ne 13, 3) := by decide +kernel
theorem dX11_years_84 : decode cX11_years 84 = .ok (.aload_n 0, 1) := by decide +kernel
theorem dX11_years_85 : decode cX11_years 85 = .ok (.getfield 50, 3) := by decide +kernel
theorem dX11_years_88 : decode cX11_years 88 = .ok (.getfield 344, 3) := by decide +kernel
theorem dX11_years_91 : decode cX11_years 91 = .ok (.ireturn, 1) := by decide +kernel
theorem dX11_years_74 : decode cX11_years 74 = .ok (.aload_n 0, 1) := by decide +kernel
theorem dX11_years_75 : decode cX11_years 75 = .ok (.getfield 50, 3) := by decide +kernel
theorem dX11_years_78 : decode cX11_years 78 = .ok (.getfield 341, 3) := by decide +kernel
theorem dX11_years_81 : decode cX11_years 81 = .ok (.goto 10, 3) := by decide +kernel
theorem mv_X6_runYears : MV RX6 yX6_runYears cX6_runYears 7 none 4 := ⟨mw_5_170, mw_5_171, mw_1_8, mw_5_172, ⟨rfl, by decide, by decide, by decide +kernel⟩⟩
set_option maxHeartbeats 4000000 in
set_option maxRecDepth 100000 in
theorem cy_X11_years (l : Launch) (D : va_G) (cA : Nat → ClassId) (L : List Nat) (T : Nat → Nat) (r : Rg) (hG : GR L T r) (hL : L.Nodup) (σ : Sg) (ρ : Lg) (hW : WT L ry T σ) (sz : Nat) (h0 : Nat) (mh0 : h0 ∈ L) (th0 : T h0 = 11) (p1 : Int32) (p2 : Int32) (p3 : Int32) : Met l yX11_years (.code yX11_years cX11_years 4 (some .int) :: wsA) ({ frames := 5, cells := 0, slots := 0, locals := 147 }) (PR D cA L T r σ ρ sz [.ref h0, .int p1, .int p2, .int p3]) (QI D cA L T r ry [(6, 3), (6, 4), (6, 5), (103, 6), (103, 7), (125, 1000), (126, 1000), (127, 1000), (128, 1000), (129, 1000), (130, 1000)] σ sz (fun x σ1 => True)) 0 0 (dm L sz) := by
  refine Met.ofW (cc := cX11_years) (maxL := 4) (ret := (some .int)) (by decide) rfl ?_
  intro p e s m args below meth c s₁ B hml hv
  obtain ⟨rfl, hsz, hP, hK, hN⟩ := hv
  have hx := B.exec
  have hb := B.bytes
  have hr := B.returns
  have hts : ∀ w ∈ wsA, w.before _ s = true := fun w h => atoms_spec (ws := .code yX11_years cX11_years 4 (some .int) :: wsA) B.pre w (List.mem_cons_of_mem _ h)
  have hown : s.vm.findClass RX11 = some m.cls := findClass_of_methodNamed B.named
  subst hsz
  have hLA : LA (dm L s.heap.size) L := ⟨hL, fun a h => Or.inl h⟩
  have hA : ∀ q : Nat, s.heap.size ≤ q → dm L s.heap.size q := fun q h => Or.inr h
  have hS : va_S (dm L s.heap.size) s.heap s.heap [] := va_S.rf
  have hB : TS D cA L T r ry [(6, 3), (6, 4), (6, 5), (103, 6), (103, 7), (125, 1000), (126, 1000), (127, 1000), (128, 1000), (129, 1000), (130, 1000)] σ σ ρ s.heap := ⟨hP, hW, FR.rf⟩
  have hl := lv_entry ([.ref h0, .int p1, .int p2, .int p3]) (n := 4) (Nat.le_of_ble_eq_true rfl)
  rw [lg_entry_eq]
  generalize (lg_sl ([.ref h0, .int p1, .int p2, .int p3]) ++ List.replicate (4 - (lg_sl ([.ref h0, .int p1, .int p2, .int p3])).length) Slot.unset).toArray = ls at hl ⊢
  have hl : lv_has ls 4 [(0, .ref h0), (1, .int p1), (2, .int p2), (3, .int p3)] := hl
  refine lv_aload_n hx hb dX11_years_0 rfl (lv_at hl 0 rfl) ?_
  refine t_gr hx hb hts hown hK hG hB mh0 th0 fq_11_3 rfl mw_2_210 dX11_years_1 (fun b_1 hb_1 mb_1 tb_1 => ?_)
  refine t_gr hx hb hts hown hK hG hB mb_1 tb_1 fq_10_0 rfl mw_1_236 dX11_years_4 (fun b_2 hb_2 mb_2 tb_2 => ?_)
  refine t_gi hx hb hts hown hK hB mb_2 tb_2 fi_3_6 rfl mw_1_164 dX11_years_7 (fun x_3 ex_3 lx_3 ux_3 => ?_)
  have cx_3 := congrArg Int32.toInt ex_3
  refine lv_if_eq (tgt := 44) hx hb dX11_years_10 (by decide) (fun c_4 => ?_) (fun c_4 => ?_)
  · skip
    have uc_4 := i_eq (n := 0) (by decide) c_4
    refine lv_iconst (v := (-1)) hx hb dX11_years_44 (by decide) ?_
    exact W.iret (v := (-1)) hx hb hr (fun t ht hW => ⟨⟨(-1), (σ, ρ), rfl, ⟨hB.2.1, hB.2.2, trivial⟩, (show TP D cA L T r σ ρ t.heap from by rw [ht]; exact hB.1)⟩, hS.F ht⟩) hS.2.2 dX11_years_45
  · skip
    have uc_4 := i_ne (n := 0) (by decide) c_4
    refine lv_iload_n hx hb dX11_years_13 rfl (lv_at hl 1 rfl) ?_
    refine lv_iconst (v := 1) hx hb dX11_years_14 (by decide) ?_
    refine lv_icmp_lt (tgt := 44) hx hb dX11_years_15 (by decide) (fun c_5 => ?_) (fun c_5 => ?_)
    · skip
      have uc_5 := i_lt (n := 1) (by decide) c_5
      refine lv_iconst (v := (-1)) hx hb dX11_years_44 (by decide) ?_
      exact W.iret (v := (-1)) hx hb hr (fun t ht hW => ⟨⟨(-1), (σ, ρ), rfl, ⟨hB.2.1, hB.2.2, trivial⟩, (show TP D cA L T r σ ρ t.heap from by rw [ht]; exact hB.1)⟩, hS.F ht⟩) hS.2.2 dX11_years_45
    · skip
      have uc_5 := i_nlt (n := 1) (by decide) c_5
      refine lv_iload_n hx hb dX11_years_18 rfl (lv_at hl 1 rfl) ?_
      refine lv_bipush (v := 10) hx hb dX11_years_19 (by decide) ?_
      refine lv_icmp_gt (tgt := 44) hx hb dX11_years_21 (by decide) (fun c_6 => ?_) (fun c_6 => ?_)
      · skip
        have uc_6 := i_gt (n := 10) (by decide) c_6
        refine lv_iconst (v := (-1)) hx hb dX11_years_44 (by decide) ?_
        exact W.iret (v := (-1)) hx hb hr (fun t ht hW => ⟨⟨(-1), (σ, ρ), rfl, ⟨hB.2.1, hB.2.2, trivial⟩, (show TP D cA L T r σ ρ t.heap from by rw [ht]; exact hB.1)⟩, hS.F ht⟩) hS.2.2 dX11_years_45
      · skip
        have uc_6 := i_ngt (n := 10) (by decide) c_6
        refine lv_iload_n hx hb dX11_years_24 rfl (lv_at hl 2 rfl) ?_
        refine lv_iconst (v := 1) hx hb dX11_years_25 (by decide) ?_
        refine lv_icmp_lt (tgt := 44) hx hb dX11_years_26 (by decide) (fun c_7 => ?_) (fun c_7 => ?_)
        · skip
          have uc_7 := i_lt (n := 1) (by decide) c_7
          refine lv_iconst (v := (-1)) hx hb dX11_years_44 (by decide) ?_
          exact W.iret (v := (-1)) hx hb hr (fun t ht hW => ⟨⟨(-1), (σ, ρ), rfl, ⟨hB.2.1, hB.2.2, trivial⟩, (show TP D cA L T r σ ρ t.heap from by rw [ht]; exact hB.1)⟩, hS.F ht⟩) hS.2.2 dX11_years_45
        · skip
          have uc_7 := i_nlt (n := 1) (by decide) c_7
          refine lv_iload_n hx hb dX11_years_29 rfl (lv_at hl 2 rfl) ?_
          refine lv_bipush (v := 60) hx hb dX11_years_30 (by decide) ?_
          refine lv_icmp_gt (tgt := 44) hx hb dX11_years_32 (by decide) (fun c_8 => ?_) (fun c_8 => ?_)
          · skip
            have uc_8 := i_gt (n := 60) (by decide) c_8
            refine lv_iconst (v := (-1)) hx hb dX11_years_44 (by decide) ?_
            exact W.iret (v := (-1)) hx hb hr (fun t ht hW => ⟨⟨(-1), (σ, ρ), rfl, ⟨hB.2.1, hB.2.2, trivial⟩, (show TP D cA L T r σ ρ t.heap from by rw [ht]; exact hB.1)⟩, hS.F ht⟩) hS.2.2 dX11_years_45
          · skip
            have uc_8 := i_ngt (n := 60) (by decide) c_8
            refine lv_iload_n hx hb dX11_years_35 rfl (lv_at hl 3 rfl) ?_
            refine lv_if_lt (tgt := 44) hx hb dX11_years_36 (by decide) (fun c_9 => ?_) (fun c_9 => ?_)
            · skip
              have uc_9 := i_lt (n := 0) (by decide) c_9
              refine lv_iconst (v := (-1)) hx hb dX11_years_44 (by decide) ?_
              exact W.iret (v := (-1)) hx hb hr (fun t ht hW => ⟨⟨(-1), (σ, ρ), rfl, ⟨hB.2.1, hB.2.2, trivial⟩, (show TP D cA L T r σ ρ t.heap from by rw [ht]; exact hB.1)⟩, hS.F ht⟩) hS.2.2 dX11_years_45
            · skip
              have uc_9 := i_nlt (n := 0) (by decide) c_9
              refine lv_iload_n hx hb dX11_years_39 rfl (lv_at hl 3 rfl) ?_
              refine lv_iconst (v := 1) hx hb dX11_years_40 (by decide) ?_
              refine lv_icmp_le (tgt := 46) hx hb dX11_years_41 (by decide) (fun c_10 => ?_) (fun c_10 => ?_)
              · skip
                have uc_10 := i_le (n := 1) (by decide) c_10
                refine lv_aload_n hx hb dX11_years_46 rfl (lv_at hl 0 rfl) ?_
                refine t_gr hx hb hts hown hK hG hB mh0 th0 fq_11_6 rfl mw_2_213 dX11_years_47 (fun b_11 hb_11 mb_11 tb_11 => ?_)
                refine lv_aload_n hx hb dX11_years_50 rfl (lv_at hl 0 rfl) ?_
                refine t_gk hx hb hts hown hK hB mh0 th0 fq_11_3 hb_1 mw_2_210 dX11_years_51 ?_
                refine lv_aload_n hx hb dX11_years_54 rfl (lv_at hl 0 rfl) ?_
                refine lv_aload_n hx hb dX11_years_55 rfl (lv_at hl 0 rfl) ?_
                refine t_gk hx hb hts hown hK hB mh0 th0 fq_11_3 hb_1 mw_2_210 dX11_years_56 ?_
                refine t_gi hx hb hts hown hK hB mb_1 tb_1 fi_10_7 rfl mw_2_15 dX11_years_59 (fun x_12 ex_12 lx_12 ux_12 => ?_)
                have cx_12 := congrArg Int32.toInt ex_12
                refine t_cq (va_runV (As := [.int x_12]) (rest := [.ref b_1, .ref b_11]) ⟨hx, hb, hml, hown, hts⟩ (cy_X11_ruleOf l D cA L T r hG hLA.1 σ ρ hB.2.1 _ h0 mh0 th0 x_12) (cV hts mv_X11_ruleOf mw_4_110 rfl rfl ⟨Nat.le_of_ble_eq_true rfl, Nat.le_of_ble_eq_true rfl⟩) (pV hB.1 hK hN mh0 th0 (show shp cA 11 _ _ _ = .inr (11, Fs11 _ _ _) from rfl) rfl) rfl rfl hl.1 rfl (lv_room (Nat.le_of_ble_eq_true rfl)) dX11_years_62 ⟨Nat.le_of_ble_eq_true rfl, Nat.le_of_ble_eq_true rfl⟩) hLA hA hB hS (by decide) (fun x_15 σ_13 ρ_14 H locs hB fσ_13 pσ_13 hS => ?_)
                have qσ_13 := FR.nil fσ_13
                subst qσ_13
                rcases x_15 with _ | bx_15
                · skip
                  refine W.eq (g2 := F0 m 65 ls [.null, .ref b_1, .ref b_11]) rfl ?_
                  refine lv_iload_n hx hb dX11_years_65 rfl (lv_at hl 1 rfl) ?_
                  refine lv_iload_n hx hb dX11_years_66 rfl (lv_at hl 2 rfl) ?_
                  refine t_cv (va_runV (As := [.ref b_1, .null, .int p1, .int p2]) (rest := []) ⟨hx, hb, hml, hown, hts⟩ (cy_X6_runYears_0 l D cA L T r hG hLA.1 σ ρ_14 hB.2.1 _ b_11 mb_11 tb_11 b_1 mb_1 tb_1 p1 p2 (by first | omega | decide) (by first | omega | decide) (by first | omega | decide) (by first | omega | decide)) (cV hts mv_X6_runYears mw_5_169 rfl rfl ⟨Nat.le_of_ble_eq_true rfl, Nat.le_of_ble_eq_true rfl⟩) (pV hB.1 hK hN mb_11 tb_11 (show shp cA 6 _ _ _ = .inr (6, Fs6 _ _ _) from rfl) rfl) rfl rfl hl.1 rfl (lv_room (Nat.le_of_ble_eq_true rfl)) dX11_years_67 ⟨Nat.le_of_ble_eq_true rfl, Nat.le_of_ble_eq_true rfl⟩) hLA hA hB hS (by decide) (fun σ_16 ρ_17 H locs hB fσ_16 pσ_16 hS => ?_)
                  refine lv_iload_n hx hb dX11_years_70 rfl (lv_at hl 3 rfl) ?_
                  refine lv_if_ne (tgt := 84) hx hb dX11_years_71 (by decide) (fun c_19 => ?_) (fun c_19 => ?_)
                  · skip
                    have uc_19 := i_ne (n := 0) (by decide) c_19
                    refine lv_aload_n hx hb dX11_years_84 rfl (lv_at hl 0 rfl) ?_
                    refine t_gk hx hb hts hown hK hB mh0 th0 fq_11_6 hb_11 mw_2_213 dX11_years_85 ?_
                    refine t_gi hx hb hts hown hK hB mb_11 tb_11 fi_6_5 rfl mw_2_74 dX11_years_88 (fun x_20 ex_20 lx_20 ux_20 => ?_)
                    have cx_20 := congrArg Int32.toInt ex_20
                    exact W.iret (v := x_20) hx hb hr (fun t ht hW => ⟨⟨x_20, (σ_16, ρ_17), rfl, ⟨hB.2.1, hB.2.2, trivial⟩, (show TP D cA L T r σ_16 ρ_17 t.heap from by rw [ht]; exact hB.1)⟩, hS.F ht⟩) hS.2.2 dX11_years_91
                  · skip
                    have uc_19 := i_eq (n := 0) (by decide) c_19
                    refine lv_aload_n hx hb dX11_years_74 rfl (lv_at hl 0 rfl) ?_
                    refine t_gk hx hb hts hown hK hB mh0 th0 fq_11_6 hb_11 mw_2_213 dX11_years_75 ?_
                    refine t_gi hx hb hts hown hK hB mb_11 tb_11 fi_6_4 rfl mw_2_72 dX11_years_78 (fun x_21 ex_21 lx_21 ux_21 => ?_)
                    have cx_21 := congrArg Int32.toInt ex_21
                    refine lv_goto (tgt := 91) hx hb dX11_years_81 (by decide) ?_
                    exact W.iret (v := x_21) hx hb hr (fun t ht hW => ⟨⟨x_21, (σ_16, ρ_17), rfl, ⟨hB.2.1, hB.2.2, trivial⟩, (show TP D cA L T r σ_16 ρ_17 t.heap from by rw [ht]; exact hB.1)⟩, hS.F ht⟩) hS.2.2 dX11_years_91
                · skip
                  obtain ⟨mbx_15, tbx_15⟩ := pσ_13 _ rfl
                  refine W.eq (g2 := F0 m 65 ls [.ref bx_15, .ref b_1, .ref b_11]) rfl ?_
                  refine lv_iload_n hx hb dX11_years_65 rfl (lv_at hl 1 rfl) ?_
                  refine lv_iload_n hx hb dX11_years_66 rfl (lv_at hl 2 rfl) ?_
                  refine t_cv (va_runV (As := [.ref b_1, .ref bx_15, .int p1, .int p2]) (rest := []) ⟨hx, hb, hml, hown, hts⟩ (cy_X6_runYears_7 l D cA L T r hG hLA.1 σ ρ_14 hB.2.1 _ b_11 mb_11 tb_11 b_1 mb_1 tb_1 bx_15 mbx_15 tbx_15 p1 p2 (by first | omega | decide) (by first | omega | decide) (by first | omega | decide) (by first | omega | decide)) (cV hts mv_X6_runYears mw_5_169 rfl rfl ⟨Nat.le_of_ble_eq_true rfl, Nat.le_of_ble_eq_true rfl⟩) (pV hB.1 hK hN mb_11 tb_11 (show shp cA 6 _ _ _ = .inr (6, Fs6 _ _ _) from rfl) rfl) rfl rfl hl.1 rfl (lv_room (Nat.le_of_ble_eq_true rfl)) dX11_years_67 ⟨Nat.le_of_ble_eq_true rfl, Nat.le_of_ble_eq_true rfl⟩) hLA hA hB hS (by decide) (fun σ_22 ρ_23 H locs hB fσ_22 pσ_22 hS => ?_)
                  refine lv_iload_n hx hb dX11_years_70 rfl (lv_at hl 3 rfl) ?_
                  refine lv_if_ne (tgt := 84) hx hb dX11_years_71 (by decide) (fun c_25 => ?_) (fun c_25 => ?_)
                  · skip
                    have uc_25 := i_ne (n := 0) (by decide) c_25
                    refine lv_aload_n hx hb dX11_years_84 rfl (lv_at hl 0 rfl) ?_
                    refine t_gk hx hb hts hown hK hB mh0 th0 fq_11_6 hb_11 mw_2_213 dX11_years_85 ?_
                    refine t_gi hx hb hts hown hK hB mb_11 tb_11 fi_6_5 rfl mw_2_74 dX11_years_88 (fun x_26 ex_26 lx_26 ux_26 => ?_)
                    have cx_26 := congrArg Int32.toInt ex_26
                    exact W.iret (v := x_26) hx hb hr (fun t ht hW => ⟨⟨x_26, (σ_22, ρ_23), rfl, ⟨hB.2.1, hB.2.2, trivial⟩, (show TP D cA L T r σ_22 ρ_23 t.heap from by rw [ht]; exact hB.1)⟩, hS.F ht⟩) hS.2.2 dX11_years_91
                  · skip
                    have uc_25 := i_eq (n := 0) (by decide) c_25
                    refine lv_aload_n hx hb dX11_years_74 rfl (lv_at hl 0 rfl) ?_
                    refine t_gk hx hb hts hown hK hB mh0 th0 fq_11_6 hb_11 mw_2_213 dX11_years_75 ?_
                    refine t_gi hx hb hts hown hK hB mb_11 tb_11 fi_6_4 rfl mw_2_72 dX11_years_78 (fun x_27 ex_27 lx_27 ux_27 => ?_)
                    have cx_27 := congrArg Int32.toInt ex_27
                    refine lv_goto (tgt := 91) hx hb dX11_years_81 (by decide) ?_
                    exact W.iret (v := x_27) hx hb hr (fun t ht hW => ⟨⟨x_27, (σ_22, ρ_23), rfl, ⟨hB.2.1, hB.2.2, trivial⟩, (show TP D cA L T r σ_22 ρ_23 t.heap from by rw [ht]; exact hB.1)⟩, hS.F ht⟩) hS.2.2 dX11_years_91
              · skip
                have uc_10 := i_nle (n := 1) (by decide) c_10
                refine lv_iconst (v := (-1)) hx hb dX11_years_44 (by decide) ?_
                exact W.iret (v := (-1)) hx hb hr (fun t ht hW => ⟨⟨(-1), (σ, ρ), rfl, ⟨hB.2.1, hB.2.2, trivial⟩, (show TP D cA L T r σ ρ t.heap from by rw [ht]; exact hB.1)⟩, hS.F ht⟩) hS.2.2 dX11_years_45
theorem mw_3_9 : (.instanceMethod yX9_append : Cond) ∈ wsA := wsA_t (List.mem_append_right _ (List.mem_append_right _ (List.mem_append_left _ (List.mem_of_getElem? (l := tables_1_3) (i := 9) rfl)))) rfl
theorem mw_3_10 : (.selects RX9 yX9_append yX9_append : Cond) ∈ wsA := wsA_t (List.mem_append_right _ (List.mem_append_right _ (List.mem_append_left _ (List.mem_of_getElem? (l := tables_1_3) (i := 10) rfl)))) rfl
theorem mw_3_11 : (.code yX9_append cX9_append 3 none : Cond) ∈ wsA := wsA_t (List.mem_append_right _ (List.mem_append_right _ (List.mem_append_left _ (List.mem_of_getElem? (l := tables_1_3) (i := 11) rfl)))) rfl
theorem mw_3_8 : (.methodLink RX11 80 yX9_append : Cond) ∈ wsA := wsA_t (List.mem_append_right _ (List.mem_append_right _ (List.mem_append_left _ (List.mem_of_getElem? (l := tables_1_3) (i := 8) rfl)))) rfl
theorem dX11_feed_0 : decode cX11_feed 0 = .ok (.aload_n 0, 1) := by decide +kernel
theorem dX11_feed_1 : decode cX11_feed 1 = .ok (.getfield 10, 3) := by decide +kernel
theorem dX11_feed_4 : decode cX11_feed 4 = .ok (.getfield 76, 3) := by decide +kernel
theorem dX11_feed_7 : decode cX11_feed 7 = .ok (.bipush 20, 2) := by decide +kernel
theorem dX11_feed_9 : decode cX11_feed 9 = .ok (.iadd, 1) := by decide +kernel
theorem dX11_feed_10 : decode cX11_feed 10 = .ok (.sipush 400, 3) := by decide +kernel
theorem dX11_feed_13 : decode cX11_feed 13 = .ok (.if_icmp .le 5, 3) := by decide +kernel
theorem dX11_feed_18 : decode cX11_feed 18 = .ok (.aload_n 0, 1) := by decide +kernel
theorem dX11_feed_19 : decode cX11_feed 19 = .ok (.getfield 10, 3) := by decide +kernel
theorem dX11_feed_22 : decode cX11_feed 22 = .ok (.iload_n 1, 1) := by decide +kernel
theorem dX11_feed_23 : decode cX11_feed 23 = .ok (.invokevirtual 80, 3) := by decide +kernel
theorem dX11_feed_26 : decode cX11_feed 26 = .ok (.aload_n 0, 1) := by decide +kernel
theorem dX11_feed_27 : decode cX11_feed 27 = .ok (.getfield 10, 3) := by decide +kernel
theorem dX11_feed_30 : decode cX11_feed 30 = .ok (.iload_n 2, 1) := by decide +kernel
theorem dX11_feed_31 : decode cX11_feed 31 = .ok (.invokevirtual 80, 3) := by decide +kernel
theorem dX11_feed_34 : decode cX11_feed 34 = .ok (.aload_n 0, 1) := by decide +kernel
theorem dX11_feed_35 : decode cX11_feed 35 = .ok (.getfield 10, 3) := by decide +kernel
theorem dX11_feed_38 : decode cX11_feed 38 = .ok (.iload_n 3, 1) := by decide +kernel
theorem dX11_feed_39 : decode cX11_feed 39 = .ok (.invokevirtual 80, 3) := by decide +kernel
theorem dX11_feed_42 : decode cX11_feed 42 = .ok (.aload_n 0, 1) := by decide +kernel
theorem dX11_feed_43 : decode cX11_feed 43 = .ok (.getfield 10, 3) := by decide +kernel
theorem dX11_feed_46 : decode cX11_feed 46 = .ok (.iload 4, 2) := by decide +kernel
theorem dX11_feed_48 : decode cX11_feed 48 = .ok (.invokevirtual 80, 3) := by decide +kernel
theorem dX11_feed_51 : decode cX11_feed 51 = .ok (.aload_n 0, 1) := by decide +kernel
theorem dX11_feed_52 : decode cX11_feed 52 = .ok (.getfield 10, 3) := by decide +kernel
theorem dX11_feed_55 : decode cX11_feed 55 = .ok (.iload 5, 2) := by decide +kernel
theorem dX11_feed_57 : decode cX11_feed 57 = .ok (.invokevirtual 80, 3) := by decide +kernel
theorem dX11_feed_60 : decode cX11_feed 60 = .ok (.aload_n 0, 1) := by decide +kernel
theorem dX11_feed_61 : decode cX11_feed 61 = .ok (.getfield 10, 3) := by decide +kernel
theorem dX11_feed_64 : decode cX11_feed 64 = .ok (.getfield 76, 3) := by decide +kernel
theorem dX11_feed_67 : decode cX11_feed 67 = .ok (.ireturn, 1) := by decide +kernel
theorem dX11_feed_16 : decode cX11_feed 16 = .ok (.iconst (-1), 1) := by decide +kernel
theorem dX11_feed_17 : decode cX11_feed 17 = .ok (.ireturn, 1) := by decide +kernel
theorem mv_X9_append : MV RX9 yX9_append cX9_append 3 none 1 := ⟨mw_3_9, mw_3_10, mw_1_2, mw_3_11, ⟨rfl, by decide, by decide, by decide +kernel⟩⟩
set_option maxHeartbeats 4000000 in
set_option maxRecDepth 100000 in
theorem cy_X11_feed (l : Launch) (D : va_G) (cA : Nat → ClassId) (L : List Nat) (T : Nat → Nat) (r : Rg) (hG : GR L T r) (hL : L.Nodup) (σ : Sg) (ρ : Lg) (hW : WT L ry T σ) (sz : Nat) (h0 : Nat) (mh0 : h0 ∈ L) (th0 : T h0 = 11) (p1 : Int32) (p2 : Int32) (p3 : Int32) (p4 : Int32) (p5 : Int32) : Met l yX11_feed (.code yX11_feed cX11_feed 6 (some .int) :: wsA) ({ frames := 1, cells := 0, slots := 0, locals := 22 }) (PR D cA L T r σ ρ sz [.ref h0, .int p1, .int p2, .int p3, .int p4, .int p5]) (QI D cA L T r ry [(9, 4), (51, 1000)] σ sz (fun x σ1 => True)) 0 0 (dm L sz) := by
  refine Met.ofW (cc := cX11_feed) (maxL := 6) (ret := (some .int)) (by decide) rfl ?_
  intro p e s m args below meth c s₁ B hml hv
  obtain ⟨rfl, hsz, hP, hK, hN⟩ := hv
  have hx := B.exec
  have hb := B.bytes
  have hr := B.returns
  have hts : ∀ w ∈ wsA, w.before _ s = true := fun w h => atoms_spec (ws := .code yX11_feed cX11_feed 6 (some .int) :: wsA) B.pre w (List.mem_cons_of_mem _ h)
  have hown : s.vm.findClass RX11 = some m.cls := findClass_of_methodNamed B.named
  subst hsz
  have hLA : LA (dm L s.heap.size) L := ⟨hL, fun a h => Or.inl h⟩
  have hA : ∀ q : Nat, s.heap.size ≤ q → dm L s.heap.size q := fun q h => Or.inr h
  have hS : va_S (dm L s.heap.size) s.heap s.heap [] := va_S.rf
  have hB : TS D cA L T r ry [(9, 4), (51, 1000)] σ σ ρ s.heap := ⟨hP, hW, FR.rf⟩
  have hl := lv_entry ([.ref h0, .int p1, .int p2, .int p3, .int p4, .int p5]) (n := 6) (Nat.le_of_ble_eq_true rfl)
  rw [lg_entry_eq]
  generalize (lg_sl ([.ref h0, .int p1, .int p2, .int p3, .int p4, .int p5]) ++ List.replicate (6 - (lg_sl ([.ref h0, .int p1, .int p2, .int p3, .int p4, .int p5])).length) Slot.unset).toArray = ls at hl ⊢
  have hl : lv_has ls 6 [(0, .ref h0), (1, .int p1), (2, .int p2), (3, .int p3), (4, .int p4), (5, .int p5)] := hl
  refine lv_aload_n hx hb dX11_feed_0 rfl (lv_at hl 0 rfl) ?_
  refine t_gr hx hb hts hown hK hG hB mh0 th0 fq_11_0 rfl mw_2_207 dX11_feed_1 (fun b_1 hb_1 mb_1 tb_1 => ?_)
  refine t_gi hx hb hts hown hK hB mb_1 tb_1 fi_9_4 rfl mw_1_40 dX11_feed_4 (fun x_2 ex_2 lx_2 ux_2 => ?_)
  have cx_2 := congrArg Int32.toInt ex_2
  refine lv_bipush (v := 20) hx hb dX11_feed_7 (by decide) ?_
  refine lv_iadd hx hb dX11_feed_9 ?_
  refine lv_topi (fun x_3 ex_3 => ?_)
  have vx_3 := b_add (rfl : x_2.toInt = _) (by decide : (20 : Int32).toInt = 20) ex_3 (by omega) (by omega)
  refine lv_sipush (v := 400) hx hb dX11_feed_10 (by decide) ?_
  refine lv_icmp_le (tgt := 18) hx hb dX11_feed_13 (by decide) (fun c_4 => ?_) (fun c_4 => ?_)
  · skip
    have uc_4 := i_le (n := 400) (by decide) c_4
    refine lv_aload_n hx hb dX11_feed_18 rfl (lv_at hl 0 rfl) ?_
    refine t_gk hx hb hts hown hK hB mh0 th0 fq_11_0 hb_1 mw_2_207 dX11_feed_19 ?_
    refine lv_iload_n hx hb dX11_feed_22 rfl (lv_at hl 1 rfl) ?_
    refine t_cv (va_runV (As := [.int p1]) (rest := []) ⟨hx, hb, hml, hown, hts⟩ (cy_X9_append l D cA L T r hG hLA.1 σ ρ hB.2.1 _ b_1 mb_1 tb_1 p1) (cV hts mv_X9_append mw_3_8 rfl rfl ⟨Nat.le_of_ble_eq_true rfl, Nat.le_of_ble_eq_true rfl⟩) (pV hB.1 hK hN mb_1 tb_1 (show shp cA 9 _ _ _ = .inr (9, Fs9 _ _ _) from rfl) rfl) rfl rfl hl.1 rfl (lv_room (Nat.le_of_ble_eq_true rfl)) dX11_feed_23 ⟨Nat.le_of_ble_eq_true rfl, Nat.le_of_ble_eq_true rfl⟩) hLA hA hB hS (by decide) (fun σ_5 ρ_6 H locs hB fσ_5 pσ_5 hS => ?_)
    refine lv_aload_n hx hb dX11_feed_26 rfl (lv_at hl 0 rfl) ?_
    refine t_gk hx hb hts hown hK hB mh0 th0 fq_11_0 hb_1 mw_2_207 dX11_feed_27 ?_
    refine lv_iload_n hx hb dX11_feed_30 rfl (lv_at hl 2 rfl) ?_
    refine t_cv (va_runV (As := [.int p2]) (rest := []) ⟨hx, hb, hml, hown, hts⟩ (cy_X9_append l D cA L T r hG hLA.1 σ_5 ρ_6 hB.2.1 _ b_1 mb_1 tb_1 p2) (cV hts mv_X9_append mw_3_8 rfl rfl ⟨Nat.le_of_ble_eq_true rfl, Nat.le_of_ble_eq_true rfl⟩) (pV hB.1 hK hN mb_1 tb_1 (show shp cA 9 _ _ _ = .inr (9, Fs9 _ _ _) from rfl) rfl) rfl rfl hl.1 rfl (lv_room (Nat.le_of_ble_eq_true rfl)) dX11_feed_31 ⟨Nat.le_of_ble_eq_true rfl, Nat.le_of_ble_eq_true rfl⟩) hLA hA hB hS (by decide) (fun σ_8 ρ_9 H locs hB fσ_8 pσ_8 hS => ?_)
    refine lv_aload_n hx hb dX11_feed_34 rfl (lv_at hl 0 rfl) ?_
    refine t_gk hx hb hts hown hK hB mh0 th0 fq_11_0 hb_1 mw_2_207 dX11_feed_35 ?_
    refine lv_iload_n hx hb dX11_feed_38 rfl (lv_at hl 3 rfl) ?_
    refine t_cv (va_runV (As := [.int p3]) (rest := []) ⟨hx, hb, hml, hown, hts⟩ (cy_X9_append l D cA L T r hG hLA.1 σ_8 ρ_9 hB.2.1 _ b_1 mb_1 tb_1 p3) (cV hts mv_X9_append mw_3_8 rfl rfl ⟨Nat.le_of_ble_eq_true rfl, Nat.le_of_ble_eq_true rfl⟩) (pV hB.1 hK hN mb_1 tb_1 (show shp cA 9 _ _ _ = .inr (9, Fs9 _ _ _) from rfl) rfl) rfl rfl hl.1 rfl (lv_room (Nat.le_of_ble_eq_true rfl)) dX11_feed_39 ⟨Nat.le_of_ble_eq_true rfl, Nat.le_of_ble_eq_true rfl⟩) hLA hA hB hS (by decide) (fun σ_11 ρ_12 H locs hB fσ_11 pσ_11 hS => ?_)
    refine lv_aload_n hx hb dX11_feed_42 rfl (lv_at hl 0 rfl) ?_
    refine t_gk hx hb hts hown hK hB mh0 th0 fq_11_0 hb_1 mw_2_207 dX11_feed_43 ?_
    refine lv_iload hx hb dX11_feed_46 (lv_at hl 4 rfl) ?_
    refine t_cv (va_runV (As := [.int p4]) (rest := []) ⟨hx, hb, hml, hown, hts⟩ (cy_X9_append l D cA L T r hG hLA.1 σ_11 ρ_12 hB.2.1 _ b_1 mb_1 tb_1 p4) (cV hts mv_X9_append mw_3_8 rfl rfl ⟨Nat.le_of_ble_eq_true rfl, Nat.le_of_ble_eq_true rfl⟩) (pV hB.1 hK hN mb_1 tb_1 (show shp cA 9 _ _ _ = .inr (9, Fs9 _ _ _) from rfl) rfl) rfl rfl hl.1 rfl (lv_room (Nat.le_of_ble_eq_true rfl)) dX11_feed_48 ⟨Nat.le_of_ble_eq_true rfl, Nat.le_of_ble_eq_true rfl⟩) hLA hA hB hS (by decide) (fun σ_14 ρ_15 H locs hB fσ_14 pσ_14 hS => ?_)
    refine lv_aload_n hx hb dX11_feed_51 rfl (lv_at hl 0 rfl) ?_
    refine t_gk hx hb hts hown hK hB mh0 th0 fq_11_0 hb_1 mw_2_207 dX11_feed_52 ?_
    refine lv_iload hx hb dX11_feed_55 (lv_at hl 5 rfl) ?_
    refine t_cv (va_runV (As := [.int p5]) (rest := []) ⟨hx, hb, hml, hown, hts⟩ (cy_X9_append l D cA L T r hG hLA.1 σ_14 ρ_15 hB.2.1 _ b_1 mb_1 tb_1 p5) (cV hts mv_X9_append mw_3_8 rfl rfl ⟨Nat.le_of_ble_eq_true rfl, Nat.le_of_ble_eq_true rfl⟩) (pV hB.1 hK hN mb_1 tb_1 (show shp cA 9 _ _ _ = .inr (9, Fs9 _ _ _) from rfl) rfl) rfl rfl hl.1 rfl (lv_room (Nat.le_of_ble_eq_true rfl)) dX11_feed_57 ⟨Nat.le_of_ble_eq_true rfl, Nat.le_of_ble_eq_true rfl⟩) hLA hA hB hS (by decide) (fun σ_17 ρ_18 H locs hB fσ_17 pσ_17 hS => ?_)
    refine lv_aload_n hx hb dX11_feed_60 rfl (lv_at hl 0 rfl) ?_
    refine t_gk hx hb hts hown hK hB mh0 th0 fq_11_0 hb_1 mw_2_207 dX11_feed_61 ?_
    refine t_gi hx hb hts hown hK hB mb_1 tb_1 fi_9_4 rfl mw_1_40 dX11_feed_64 (fun x_20 ex_20 lx_20 ux_20 => ?_)
    have cx_20 := congrArg Int32.toInt ex_20
    exact W.iret (v := x_20) hx hb hr (fun t ht hW => ⟨⟨x_20, (σ_17, ρ_18), rfl, ⟨hB.2.1, hB.2.2, trivial⟩, (show TP D cA L T r σ_17 ρ_18 t.heap from by rw [ht]; exact hB.1)⟩, hS.F ht⟩) hS.2.2 dX11_feed_67
  · skip
    have uc_4 := i_nle (n := 400) (by decide) c_4
    refine lv_iconst (v := (-1)) hx hb dX11_feed_16 (by decide) ?_
    exact W.iret (v := (-1)) hx hb hr (fun t ht hW => ⟨⟨(-1), (σ, ρ), rfl, ⟨hB.2.1, hB.2.2, trivial⟩, (show TP D cA L T r σ ρ t.heap from by rw [ht]; exact hB.1)⟩, hS.F ht⟩) hS.2.2 dX11_feed_17
