theorem mw_1_233 : (.fieldLink RX10 12 "HillBends$World" "hill" "LHillBends$Hill;" : Cond) ∈ wsA := wsA_t (List.mem_append_left _ (List.mem_of_getElem? (l := tables_1_1) (i := 233) rfl)) rfl
theorem mw_3_234 : (.instanceMethod yX3_copyFrom : Cond) ∈ wsA := wsA_t (List.mem_append_right _ (List.mem_append_right _ (List.mem_append_left _ (List.mem_of_getElem? (l := tables_1_3) (i := 234) rfl)))) rfl
theorem mw_3_235 : (.selects RX3 yX3_copyFrom yX3_copyFrom : Cond) ∈ wsA := wsA_t (List.mem_append_right _ (List.mem_append_right _ (List.mem_append_left _ (List.mem_of_getElem? (l := tables_1_3) (i := 235) rfl)))) rfl
theorem mw_3_236 : (.code yX3_copyFrom cX3_copyFrom 2 none : Cond) ∈ wsA := wsA_t (List.mem_append_right _ (List.mem_append_right _ (List.mem_append_left _ (List.mem_of_getElem? (l := tables_1_3) (i := 236) rfl)))) rfl
theorem mw_3_233 : (.methodLink RX10 42 yX3_copyFrom : Cond) ∈ wsA := wsA_t (List.mem_append_right _ (List.mem_append_right _ (List.mem_append_left _ (List.mem_of_getElem? (l := tables_1_3) (i := 233) rfl)))) rfl
theorem mw_1_237 : (.fieldLink RX10 21 "HillBends$World" "now" "LHillBends$Scene;" : Cond) ∈ wsA := wsA_t (List.mem_append_left _ (List.mem_of_getElem? (l := tables_1_1) (i := 237) rfl)) rfl
theorem mw_1_159 : (.fieldLink RX10 46 "HillBends$Hill" "begin" "LHillBends$Scene;" : Cond) ∈ wsA := wsA_t (List.mem_append_left _ (List.mem_of_getElem? (l := tables_1_1) (i := 159) rfl)) rfl
theorem mw_4_5 : (.methodLink RX10 49 yX8_copyFrom : Cond) ∈ wsA := wsA_t (List.mem_append_right _ (List.mem_append_right _ (List.mem_append_right _ (List.mem_append_left _ (List.mem_of_getElem? (l := tables_1_4) (i := 5) rfl))))) rfl
theorem mw_2_11 : (.fieldLink RX10 52 "HillBends$World" "notes" "I" : Cond) ∈ wsA := wsA_t (List.mem_append_right _ (List.mem_append_left _ (List.mem_of_getElem? (l := tables_1_2) (i := 11) rfl))) rfl
theorem mw_2_0 : (.fieldLink RX10 25 "HillBends$World" "leaves" "[I" : Cond) ∈ wsA := wsA_t (List.mem_append_right _ (List.mem_append_left _ (List.mem_of_getElem? (l := tables_1_2) (i := 0) rfl))) rfl
theorem dX10_begin_0 : decode cX10_begin 0 = .ok (.aload_n 0, 1) := by decide +kernel
theorem dX10_begin_1 : decode cX10_begin 1 = .ok (.getfield 12, 3) := by decide +kernel
theorem dX10_begin_4 : decode cX10_begin 4 = .ok (.aload_n 1, 1) := by decide +kernel
theorem dX10_begin_5 : decode cX10_begin 5 = .ok (.invokevirtual 42, 3) := by decide +kernel
theorem dX10_begin_8 : decode cX10_begin 8 = .ok (.aload_n 0, 1) := by decide +kernel
theorem dX10_begin_9 : decode cX10_begin 9 = .ok (.getfield 21, 3) := by decide +kernel
theorem dX10_begin_12 : decode cX10_begin 12 = .ok (.aload_n 1, 1) := by decide +kernel
theorem dX10_begin_13 : decode cX10_begin 13 = .ok (.getfield 46, 3) := by decide +kernel
theorem dX10_begin_16 : decode cX10_begin 16 = .ok (.invokevirtual 49, 3) := by decide +kernel
theorem dX10_begin_19 : decode cX10_begin 19 = .ok (.iconst 0, 1) := by decide +kernel
theorem dX10_begin_20 : decode cX10_begin 20 = .ok (.istore_n 2, 1) := by decide +kernel
theorem dX10_begin_21 : decode cX10_begin 21 = .ok (.iload_n 2, 1) := by decide +kernel
theorem dX10_begin_22 : decode cX10_begin 22 = .ok (.iconst 5, 1) := by decide +kernel
theorem dX10_begin_23 : decode cX10_begin 23 = .ok (.if_icmp .ge 16, 3) := by decide +kernel
theorem dX10_begin_39 : decode cX10_begin 39 = .ok (.aload_n 0, 1) := by decide +kernel
theorem dX10_begin_40 : decode cX10_begin 40 = .ok (.iconst 0, 1) := by decide +kernel
theorem dX10_begin_41 : decode cX10_begin 41 = .ok (.putfield 52, 3) := by decide +kernel
theorem dX10_begin_44 : decode cX10_begin 44 = .ok (.return_, 1) := by decide +kernel
theorem dX10_begin_26 : decode cX10_begin 26 = .ok (.aload_n 0, 1) := by decide +kernel
theorem dX10_begin_27 : decode cX10_begin 27 = .ok (.getfield 25, 3) := by decide +kernel
theorem dX10_begin_30 : decode cX10_begin 30 = .ok (.iload_n 2, 1) := by decide +kernel
theorem dX10_begin_31 : decode cX10_begin 31 = .ok (.iconst 0, 1) := by decide +kernel
theorem dX10_begin_32 : decode cX10_begin 32 = .ok (.iastore, 1) := by decide +kernel
theorem dX10_begin_33 : decode cX10_begin 33 = .ok (.iinc 2 1, 3) := by decide +kernel
theorem dX10_begin_36 : decode cX10_begin 36 = .ok (.goto (-15), 3) := by decide +kernel
theorem mv_X3_copyFrom : MV RX3 yX3_copyFrom cX3_copyFrom 2 none 1 := ⟨mw_3_234, mw_3_235, mw_1_4, mw_3_236, ⟨rfl, by decide, by decide, by decide +kernel⟩⟩
set_option maxHeartbeats 4000000 in
set_option maxRecDepth 100000 in
theorem cy_X10_begin (l : Launch) (D : va_G) (cA : Nat → ClassId) (L : List Nat) (T : Nat → Nat) (r : Rg) (hG : GR L T r) (hL : L.Nodup) (σ : Sg) (ρ : Lg) (hW : WT L ry T σ) (sz : Nat) (h0 : Nat) (mh0 : h0 ∈ L) (th0 : T h0 = 10) (h1 : Nat) (mh1 : h1 ∈ L) (th1 : T h1 = 17) : Met l yX10_begin (.code yX10_begin cX10_begin 3 none :: wsA) ({ frames := 3, cells := 0, slots := 0, locals := 142 }) (PR D cA L T r σ ρ sz [.ref h0, .ref h1]) (QV D cA L T r ry [(3, 6), (3, 7), (3, 8), (3, 9), (3, 10), (8, 6), (8, 7), (10, 6), (33, 1000), (34, 1000), (35, 1000), (36, 1000), (37, 1000), (45, 1000), (46, 1000), (47, 1000), (48, 1000), (49, 1000), (50, 1000), (55, 1000), (100, 6), (100, 7), (107, 1000), (108, 1000), (109, 1000), (110, 1000), (111, 1000), (112, 1000)] σ sz (fun σ1 => True)) 0 0 (dm L sz) := by
  refine Met.ofW (cc := cX10_begin) (maxL := 3) (ret := none) (by decide) rfl ?_
  intro p e s m args below meth c s₁ B hml hv
  obtain ⟨rfl, hsz, hP, hK, hN⟩ := hv
  have hx := B.exec
  have hb := B.bytes
  have hr := B.returns
  have hts : ∀ w ∈ wsA, w.before _ s = true := fun w h => atoms_spec (ws := .code yX10_begin cX10_begin 3 none :: wsA) B.pre w (List.mem_cons_of_mem _ h)
  have hown : s.vm.findClass RX10 = some m.cls := findClass_of_methodNamed B.named
  subst hsz
  have hLA : LA (dm L s.heap.size) L := ⟨hL, fun a h => Or.inl h⟩
  have hA : ∀ q : Nat, s.heap.size ≤ q → dm L s.heap.size q := fun q h => Or.inr h
  have hS : va_S (dm L s.heap.size) s.heap s.heap [] := va_S.rf
  have hB : TS D cA L T r ry [(3, 6), (3, 7), (3, 8), (3, 9), (3, 10), (8, 6), (8, 7), (10, 6), (33, 1000), (34, 1000), (35, 1000), (36, 1000), (37, 1000), (45, 1000), (46, 1000), (47, 1000), (48, 1000), (49, 1000), (50, 1000), (55, 1000), (100, 6), (100, 7), (107, 1000), (108, 1000), (109, 1000), (110, 1000), (111, 1000), (112, 1000)] σ σ ρ s.heap := ⟨hP, hW, FR.rf⟩
  have hl := lv_entry ([.ref h0, .ref h1]) (n := 3) (Nat.le_of_ble_eq_true rfl)
  rw [lg_entry_eq]
  generalize (lg_sl ([.ref h0, .ref h1]) ++ List.replicate (3 - (lg_sl ([.ref h0, .ref h1])).length) Slot.unset).toArray = ls at hl ⊢
  have hl : lv_has ls 3 [(0, .ref h0), (1, .ref h1)] := hl
  refine lv_aload_n hx hb dX10_begin_0 rfl (lv_at hl 0 rfl) ?_
  refine t_gr hx hb hts hown hK hG hB mh0 th0 fq_10_0 rfl mw_1_233 dX10_begin_1 (fun b_1 hb_1 mb_1 tb_1 => ?_)
  refine lv_aload_n hx hb dX10_begin_4 rfl (lv_at hl 1 rfl) ?_
  refine t_cv (va_runV (As := [.ref h1]) (rest := []) ⟨hx, hb, hml, hown, hts⟩ (cy_X3_copyFrom_3_17 l D cA L T r hG hLA.1 σ ρ hB.2.1 _ b_1 mb_1 tb_1 h1 mh1 th1) (cV hts mv_X3_copyFrom mw_3_233 rfl rfl ⟨Nat.le_of_ble_eq_true rfl, Nat.le_of_ble_eq_true rfl⟩) (pV hB.1 hK hN mb_1 tb_1 (show shp cA 3 _ _ _ = .inr (3, Fs3 _ _ _) from rfl) rfl) rfl rfl hl.1 rfl (lv_room (Nat.le_of_ble_eq_true rfl)) dX10_begin_5 ⟨Nat.le_of_ble_eq_true rfl, Nat.le_of_ble_eq_true rfl⟩) hLA hA hB hS (by decide) (fun σ_2 ρ_3 H locs hB fσ_2 pσ_2 hS => ?_)
  refine lv_aload_n hx hb dX10_begin_8 rfl (lv_at hl 0 rfl) ?_
  refine t_gr hx hb hts hown hK hG hB mh0 th0 fq_10_1 rfl mw_1_237 dX10_begin_9 (fun b_5 hb_5 mb_5 tb_5 => ?_)
  refine lv_aload_n hx hb dX10_begin_12 rfl (lv_at hl 1 rfl) ?_
  refine t_gr hx hb hts hown hK hG hB mh1 th1 fq_17_5 rfl mw_1_159 dX10_begin_13 (fun b_6 hb_6 mb_6 tb_6 => ?_)
  refine t_cv (va_runV (As := [.ref b_6]) (rest := []) ⟨hx, hb, hml, hown, hts⟩ (cy_X8_copyFrom_8_101 l D cA L T r hG hLA.1 σ_2 ρ_3 hB.2.1 _ b_5 mb_5 tb_5 b_6 mb_6 tb_6) (cV hts mv_X8_copyFrom mw_4_5 rfl rfl ⟨Nat.le_of_ble_eq_true rfl, Nat.le_of_ble_eq_true rfl⟩) (pV hB.1 hK hN mb_5 tb_5 (show shp cA 8 _ _ _ = .inr (8, Fs8 _ _ _) from rfl) rfl) rfl rfl hl.1 rfl (lv_room (Nat.le_of_ble_eq_true rfl)) dX10_begin_16 ⟨Nat.le_of_ble_eq_true rfl, Nat.le_of_ble_eq_true rfl⟩) hLA hA hB hS (by decide) (fun σ_7 ρ_8 H locs hB fσ_7 pσ_7 hS => ?_)
  refine lv_iconst (v := 0) hx hb dX10_begin_19 (by decide) ?_
  refine lv_istore_n (lv' := [(2, .int 0), (0, .ref h0), (1, .ref h1)]) hx hb dX10_begin_20 rfl hl (by decide) rfl (fun ls hl => ?_)
  refine w_loop (α := Int32 × Sg × Lg) (fun (i_10, σ_11, ρ_12) H locs ls => 0 ≤ i_10.toInt ∧ i_10.toInt ≤ 5 ∧ TS D cA L T r ry [(3, 6), (3, 7), (3, 8), (3, 9), (3, 10), (8, 6), (8, 7), (10, 6), (33, 1000), (34, 1000), (35, 1000), (36, 1000), (37, 1000), (45, 1000), (46, 1000), (47, 1000), (48, 1000), (49, 1000), (50, 1000), (55, 1000), (100, 6), (100, 7), (107, 1000), (108, 1000), (109, 1000), (110, 1000), (111, 1000), (112, 1000)] σ σ_11 ρ_12 H ∧ va_S (dm L s.heap.size) s.heap H locs ∧ lv_has ls 3 [(2, .int i_10), (0, .ref h0), (1, .ref h1)]) (fun (i_10, σ_11, ρ_12) => (5 - i_10.toInt).toNat) ?_ ⟨0, σ_7, ρ_8⟩ ⟨(by decide), (by decide), hB, hS, lv_sub hl [0, 1, 2] rfl⟩
  rintro ⟨i_10, σ_11, ρ_12⟩ H locs ls ⟨li_10, ui_10, hB, hS, hl⟩ ih_13
  refine lv_iload_n hx hb dX10_begin_21 rfl (lv_at hl 0 rfl) ?_
  refine lv_iconst (v := 5) hx hb dX10_begin_22 (by decide) ?_
  refine lv_icmp_ge (tgt := 39) hx hb dX10_begin_23 (by decide) (fun c_14 => ?_) (fun c_14 => ?_)
  · skip
    have uc_14 := i_ge (n := 5) (by decide) c_14
    refine lv_aload_n hx hb dX10_begin_39 rfl (lv_at hl 1 rfl) ?_
    refine lv_iconst (v := 0) hx hb dX10_begin_40 (by decide) ?_
    refine t_pi hx hb hts hown hK hLA hB hS mh0 th0 fi_10_6 rfl rfl rfl (by decide) (by decide) (Or.inl (by decide)) mw_2_11 dX10_begin_41 (fun H locs σ_15 eσ_15 hB hS => ?_)
    have k_16 : σ_15 h0 6 = 0 := by rw [eσ_15]; exact up2_same _ _ _ _
    exact W.vret hx hb hr (fun t ht hW => ⟨⟨(σ_15, ρ_12), rfl, ⟨hB.2.1, hB.2.2, trivial⟩, (show TP D cA L T r σ_15 ρ_12 t.heap from by rw [ht]; exact hB.1)⟩, hS.F ht⟩) hS.2.2 dX10_begin_44
  · skip
    have uc_14 := i_nge (n := 5) (by decide) c_14
    refine lv_aload_n hx hb dX10_begin_26 rfl (lv_at hl 1 rfl) ?_
    refine t_gr hx hb hts hown hK hG hB mh0 th0 fq_10_2 rfl mw_2_0 dX10_begin_27 (fun b_17 hb_17 mb_17 tb_17 => ?_)
    refine lv_iload_n hx hb dX10_begin_30 rfl (lv_at hl 0 rfl) ?_
    refine lv_iconst (v := 0) hx hb dX10_begin_31 (by decide) ?_
    refine t_si hx hb hK hLA hB hS mb_17 tb_17 ai_55 (i_in (by omega) (by omega)) (show 0 ≤ (0 : Int32).toInt by decide) (show (0 : Int32).toInt ≤ 9 by decide) (Or.inr (by decide)) dX10_begin_32 (fun H locs σ_18 eσ_18 hB hS => ?_)
    have k_19 : σ_18 b_17 i_10.toNatClampNeg = 0 := by rw [eσ_18]; exact up2_same _ _ _ _
    obtain ⟨x_20, ex_20⟩ : ∃ y : Int32, y = i_10 + 1 := ⟨_, rfl⟩
    have vx_20 := b_add (rfl : i_10.toInt = _) (by decide : (1 : Int32).toInt = 1) ex_20 (by omega) (by omega)
    refine lv_iinc (v := x_20) (lv' := [(2, .int x_20), (0, .ref h0), (1, .ref h1)]) hx hb dX10_begin_33 hl (k := 0) rfl (by rw [ex_20]; rfl) (by decide) rfl (fun ls hl => ?_)
    refine lv_goto (tgt := 21) hx hb dX10_begin_36 (by decide) ?_
    exact ih_13 ⟨x_20, σ_18, ρ_12⟩ _ _ _ ⟨(by omega), (by omega), hB, hS, lv_sub hl [0, 1, 2] rfl⟩ (by show (5 - x_20.toInt).toNat < (5 - i_10.toInt).toNat; omega)
theorem mw_5_205 : (.methodLink RX10 55 arraycopyName : Cond) ∈ wsA := wsA_t (List.mem_append_right _ (List.mem_append_right _ (List.mem_append_right _ (List.mem_append_right _ (List.mem_append_left _ (List.mem_of_getElem? (l := tables_1_5) (i := 205) rfl)))))) rfl
theorem mw_2_2 : (.fieldLink RX10 29 "HillBends$World" "noteNight" "[I" : Cond) ∈ wsA := wsA_t (List.mem_append_right _ (List.mem_append_left _ (List.mem_of_getElem? (l := tables_1_2) (i := 2) rfl))) rfl
theorem mw_2_5 : (.fieldLink RX10 32 "HillBends$World" "noteBend" "[I" : Cond) ∈ wsA := wsA_t (List.mem_append_right _ (List.mem_append_left _ (List.mem_of_getElem? (l := tables_1_2) (i := 5) rfl))) rfl
theorem mw_2_8 : (.fieldLink RX10 35 "HillBends$World" "noteSort" "[I" : Cond) ∈ wsA := wsA_t (List.mem_append_right _ (List.mem_append_left _ (List.mem_of_getElem? (l := tables_1_2) (i := 8) rfl))) rfl
theorem mw_2_14 : (.fieldLink RX10 38 "HillBends$World" "force" "I" : Cond) ∈ wsA := wsA_t (List.mem_append_right _ (List.mem_append_left _ (List.mem_of_getElem? (l := tables_1_2) (i := 14) rfl))) rfl
theorem mw_2_16 : (.fieldLink RX10 61 "HillBends$World" "x" "I" : Cond) ∈ wsA := wsA_t (List.mem_append_right _ (List.mem_append_left _ (List.mem_of_getElem? (l := tables_1_2) (i := 16) rfl))) rfl
theorem dX10_copyFrom_0 : decode cX10_copyFrom 0 = .ok (.aload_n 0, 1) := by decide +kernel
theorem dX10_copyFrom_1 : decode cX10_copyFrom 1 = .ok (.getfield 12, 3) := by decide +kernel
theorem dX10_copyFrom_4 : decode cX10_copyFrom 4 = .ok (.aload_n 1, 1) := by decide +kernel
theorem dX10_copyFrom_5 : decode cX10_copyFrom 5 = .ok (.getfield 12, 3) := by decide +kernel
theorem dX10_copyFrom_8 : decode cX10_copyFrom 8 = .ok (.invokevirtual 42, 3) := by decide +kernel
theorem dX10_copyFrom_11 : decode cX10_copyFrom 11 = .ok (.aload_n 0, 1) := by decide +kernel
theorem dX10_copyFrom_12 : decode cX10_copyFrom 12 = .ok (.getfield 21, 3) := by decide +kernel
theorem dX10_copyFrom_15 : decode cX10_copyFrom 15 = .ok (.aload_n 1, 1) := by decide +kernel
theorem dX10_copyFrom_16 : decode cX10_copyFrom 16 = .ok (.getfield 21, 3) := by decide +kernel
theorem dX10_copyFrom_19 : decode cX10_copyFrom 19 = .ok (.invokevirtual 49, 3) := by decide +kernel
theorem dX10_copyFrom_22 : decode cX10_copyFrom 22 = .ok (.aload_n 1, 1) := by decide +kernel
theorem dX10_copyFrom_23 : decode cX10_copyFrom 23 = .ok (.getfield 25, 3) := by decide +kernel
theorem dX10_copyFrom_26 : decode cX10_copyFrom 26 = .ok (.iconst 0, 1) := by decide +kernel
theorem dX10_copyFrom_27 : decode cX10_copyFrom 27 = .ok (.aload_n 0, 1) := by decide +kernel
theorem dX10_copyFrom_28 : decode cX10_copyFrom 28 = .ok (.getfield 25, 3) := by decide +kernel
theorem dX10_copyFrom_31 : decode cX10_copyFrom 31 = .ok (.iconst 0, 1) := by decide +kernel
theorem dX10_copyFrom_32 : decode cX10_copyFrom 32 = .ok (.iconst 5, 1) := by decide +kernel
theorem dX10_copyFrom_33 : decode cX10_copyFrom 33 = .ok (.invokestatic 55, 3) := by decide +kernel
theorem dX10_copyFrom_36 : decode cX10_copyFrom 36 = .ok (.aload_n 1, 1) := by decide +kernel
theorem dX10_copyFrom_37 : decode cX10_copyFrom 37 = .ok (.getfield 29, 3) := by decide +kernel
theorem dX10_copyFrom_40 : decode cX10_copyFrom 40 = .ok (.iconst 0, 1) := by decide +kernel
theorem dX10_copyFrom_41 : decode cX10_copyFrom 41 = .ok (.aload_n 0, 1) := by decide +kernel
theorem dX10_copyFrom_42 : decode cX10_copyFrom 42 = .ok (.getfield 29, 3) := by decide +kernel
theorem dX10_copyFrom_45 : decode cX10_copyFrom 45 = .ok (.iconst 0, 1) := by decide +kernel
theorem dX10_copyFrom_46 : decode cX10_copyFrom 46 = .ok (.bipush 10, 2) := by decide +kernel
theorem dX10_copyFrom_48 : decode cX10_copyFrom 48 = .ok (.invokestatic 55, 3) := by decide +kernel
theorem dX10_copyFrom_51 : decode cX10_copyFrom 51 = .ok (.aload_n 1, 1) := by decide +kernel
theorem dX10_copyFrom_52 : decode cX10_copyFrom 52 = .ok (.getfield 32, 3) := by decide +kernel
theorem dX10_copyFrom_55 : decode cX10_copyFrom 55 = .ok (.iconst 0, 1) := by decide +kernel
theorem dX10_copyFrom_56 : decode cX10_copyFrom 56 = .ok (.aload_n 0, 1) := by decide +kernel
theorem dX10_copyFrom_57 : decode cX10_copyFrom 57 = .ok (.getfield 32, 3) := by decide +kernel
theorem dX10_copyFrom_60 : decode cX10_copyFrom 60 = .ok (.iconst 0, 1) := by decide +kernel
theorem dX10_copyFrom_61 : decode cX10_copyFrom 61 = .ok (.bipush 10, 2) := by decide +kernel
theorem dX10_copyFrom_63 : decode cX10_copyFrom 63 = .ok (.invokestatic 55, 3) := by decide +kernel
theorem dX10_copyFrom_66 : decode cX10_copyFrom 66 = .ok (.aload_n 1, 1) := by decide +kernel
theorem dX10_copyFrom_67 : decode cX10_copyFrom 67 = .ok (.getfield 35, 3) := by decide +kernel
theorem dX10_copyFrom_70 : decode cX10_copyFrom 70 = .ok (.iconst 0, 1) := by decide +kernel
theorem dX10_copyFrom_71 : decode cX10_copyFrom 71 = .ok (.aload_n 0, 1) := by decide +kernel
theorem dX10_copyFrom_72 : decode cX10_copyFrom 72 = .ok (.getfield 35, 3) := by decide +kernel
theorem dX10_copyFrom_75 : decode cX10_copyFrom 75 = .ok (.iconst 0, 1) := by decide +kernel
theorem dX10_copyFrom_76 : decode cX10_copyFrom 76 = .ok (.bipush 10, 2) := by decide +kernel
theorem dX10_copyFrom_78 : decode cX10_copyFrom 78 = .ok (.invokestatic 55, 3) := by decide +kernel
theorem dX10_copyFrom_81 : decode cX10_copyFrom 81 = .ok (.aload_n 0, 1) := by decide +kernel
theorem dX10_copyFrom_82 : decode cX10_copyFrom 82 = .ok (.aload_n 1, 1) := by decide +kernel
theorem dX10_copyFrom_83 : decode cX10_copyFrom 83 = .ok (.getfield 52, 3) := by decide +kernel
theorem dX10_copyFrom_86 : decode cX10_copyFrom 86 = .ok (.putfield 52, 3) := by decide +kernel
theorem dX10_copyFrom_89 : decode cX10_copyFrom 89 = .ok (.aload_n 0, 1) := by decide +kernel
theorem dX10_copyFrom_90 : decode cX10_copyFrom 90 = .ok (.aload_n 1, 1) := by decide +kernel
theorem dX10_copyFrom_91 : decode cX10_copyFrom 91 = .ok (.getfield 38, 3) := by decide +kernel
theorem dX10_copyFrom_94 : decode cX10_copyFrom 94 = .ok (.putfield 38, 3) := by decide +kernel
theorem dX10_copyFrom_97 : decode cX10_copyFrom 97 = .ok (.aload_n 0, 1) := by decide +kernel
theorem dX10_copyFrom_98 : decode cX10_copyFrom 98 = .ok (.aload_n 1, 1) := by decide +kernel
theorem dX10_copyFrom_99 : decode cX10_copyFrom 99 = .ok (.getfield 61, 3) := by decide +kernel
theorem dX10_copyFrom_102 : decode cX10_copyFrom 102 = .ok (.putfield 61, 3) := by decide +kernel
theorem dX10_copyFrom_105 : decode cX10_copyFrom 105 = .ok (.return_, 1) := by decide +kernel
set_option maxHeartbeats 4000000 in
set_option maxRecDepth 100000 in
theorem cy_X10_copyFrom_13_10 (l : Launch) (D : va_G) (cA : Nat → ClassId) (L : List Nat) (T : Nat → Nat) (r : Rg) (hG : GR L T r) (hL : L.Nodup) (σ : Sg) (ρ : Lg) (hW : WT L ry T σ) (sz : Nat) (h0 : Nat) (mh0 : h0 ∈ L) (th0 : T h0 = 13) (h1 : Nat) (mh1 : h1 ∈ L) (th1 : T h1 = 10) : Met l yX10_copyFrom (.code yX10_copyFrom cX10_copyFrom 2 none :: wsA) ({ frames := 3, cells := 0, slots := 0, locals := 142 }) (PR D cA L T r σ ρ sz [.ref h0, .ref h1]) (QV D cA L T r ry [(13, 6), (13, 7), (13, 8), (18, 6), (18, 7), (18, 8), (18, 9), (18, 10), (86, 1000), (87, 1000), (88, 1000), (89, 1000), (95, 1000), (96, 1000), (97, 1000), (98, 1000), (99, 1000), (105, 6), (105, 7), (106, 6), (106, 7), (137, 1000), (138, 1000), (139, 1000), (140, 1000), (141, 1000), (142, 1000), (143, 1000), (144, 1000), (145, 1000), (146, 1000), (147, 1000), (148, 1000)] σ sz (fun σ1 => True)) 0 0 (dm L sz) := by
  refine Met.ofW (cc := cX10_copyFrom) (maxL := 2) (ret := none) (by decide) rfl ?_
  intro p e s m args below meth c s₁ B hml hv
  obtain ⟨rfl, hsz, hP, hK, hN⟩ := hv
  have hx := B.exec
  have hb := B.bytes
  have hr := B.returns
  have hts : ∀ w ∈ wsA, w.before _ s = true := fun w h => atoms_spec (ws := .code yX10_copyFrom cX10_copyFrom 2 none :: wsA) B.pre w (List.mem_cons_of_mem _ h)
  have hown : s.vm.findClass RX10 = some m.cls := findClass_of_methodNamed B.named
  subst hsz
  have hLA : LA (dm L s.heap.size) L := ⟨hL, fun a h => Or.inl h⟩
  have hA : ∀ q : Nat, s.heap.size ≤ q → dm L s.heap.size q := fun q h => Or.inr h
  have hS : va_S (dm L s.heap.size) s.heap s.heap [] := va_S.rf
  have hB : TS D cA L T r ry [(13, 6), (13, 7), (13, 8), (18, 6), (18, 7), (18, 8), (18, 9), (18, 10), (86, 1000), (87, 1000), (88, 1000), (89, 1000), (95, 1000), (96, 1000), (97, 1000), (98, 1000), (99, 1000), (105, 6), (105, 7), (106, 6), (106, 7), (137, 1000), (138, 1000), (139, 1000), (140, 1000), (141, 1000), (142, 1000), (143, 1000), (144, 1000), (145, 1000), (146, 1000), (147, 1000), (148, 1000)] σ σ ρ s.heap := ⟨hP, hW, FR.rf⟩
  have hl := lv_entry ([.ref h0, .ref h1]) (n := 2) (Nat.le_of_ble_eq_true rfl)
  rw [lg_entry_eq]
  generalize (lg_sl ([.ref h0, .ref h1]) ++ List.replicate (2 - (lg_sl ([.ref h0, .ref h1])).length) Slot.unset).toArray = ls at hl ⊢
  have hl : lv_has ls 2 [(0, .ref h0), (1, .ref h1)] := hl
  refine lv_aload_n hx hb dX10_copyFrom_0 rfl (lv_at hl 0 rfl) ?_
  refine t_gr hx hb hts hown hK hG hB mh0 th0 fq_13_0 rfl mw_1_233 dX10_copyFrom_1 (fun b_1 hb_1 mb_1 tb_1 => ?_)
  refine lv_aload_n hx hb dX10_copyFrom_4 rfl (lv_at hl 1 rfl) ?_
  refine t_gr hx hb hts hown hK hG hB mh1 th1 fq_10_0 rfl mw_1_233 dX10_copyFrom_5 (fun b_2 hb_2 mb_2 tb_2 => ?_)
  refine t_cv (va_runV (As := [.ref b_2]) (rest := []) ⟨hx, hb, hml, hown, hts⟩ (cy_X3_copyFrom_18_3 l D cA L T r hG hLA.1 σ ρ hB.2.1 _ b_1 mb_1 tb_1 b_2 mb_2 tb_2) (cV hts mv_X3_copyFrom mw_3_233 rfl rfl ⟨Nat.le_of_ble_eq_true rfl, Nat.le_of_ble_eq_true rfl⟩) (pV hB.1 hK hN mb_1 tb_1 (show shp cA 18 _ _ _ = .inr (3, Fs3 _ _ _) from rfl) rfl) rfl rfl hl.1 rfl (lv_room (Nat.le_of_ble_eq_true rfl)) dX10_copyFrom_8 ⟨Nat.le_of_ble_eq_true rfl, Nat.le_of_ble_eq_true rfl⟩) hLA hA hB hS (by decide) (fun σ_3 ρ_4 H locs hB fσ_3 pσ_3 hS => ?_)
  refine lv_aload_n hx hb dX10_copyFrom_11 rfl (lv_at hl 0 rfl) ?_
  refine t_gr hx hb hts hown hK hG hB mh0 th0 fq_13_1 rfl mw_1_237 dX10_copyFrom_12 (fun b_6 hb_6 mb_6 tb_6 => ?_)
  refine lv_aload_n hx hb dX10_copyFrom_15 rfl (lv_at hl 1 rfl) ?_
  refine t_gr hx hb hts hown hK hG hB mh1 th1 fq_10_1 rfl mw_1_237 dX10_copyFrom_16 (fun b_7 hb_7 mb_7 tb_7 => ?_)
  refine t_cv (va_runV (As := [.ref b_7]) (rest := []) ⟨hx, hb, hml, hown, hts⟩ (cy_X8_copyFrom_105_8 l D cA L T r hG hLA.1 σ_3 ρ_4 hB.2.1 _ b_6 mb_6 tb_6 b_7 mb_7 tb_7) (cV hts mv_X8_copyFrom mw_4_5 rfl rfl ⟨Nat.le_of_ble_eq_true rfl, Nat.le_of_ble_eq_true rfl⟩) (pV hB.1 hK hN mb_6 tb_6 (show shp cA 105 _ _ _ = .inr (8, Fs8 _ _ _) from rfl) rfl) rfl rfl hl.1 rfl (lv_room (Nat.le_of_ble_eq_true rfl)) dX10_copyFrom_19 ⟨Nat.le_of_ble_eq_true rfl, Nat.le_of_ble_eq_true rfl⟩) hLA hA hB hS (by decide) (fun σ_8 ρ_9 H locs hB fσ_8 pσ_8 hS => ?_)
  refine lv_aload_n hx hb dX10_copyFrom_22 rfl (lv_at hl 1 rfl) ?_
  refine t_gr hx hb hts hown hK hG hB mh1 th1 fq_10_2 rfl mw_2_0 dX10_copyFrom_23 (fun b_11 hb_11 mb_11 tb_11 => ?_)
  refine lv_iconst (v := 0) hx hb dX10_copyFrom_26 (by decide) ?_
  refine lv_aload_n hx hb dX10_copyFrom_27 rfl (lv_at hl 0 rfl) ?_
  refine t_gr hx hb hts hown hK hG hB mh0 th0 fq_13_2 rfl mw_2_0 dX10_copyFrom_28 (fun b_12 hb_12 mb_12 tb_12 => ?_)
  refine lv_iconst (v := 0) hx hb dX10_copyFrom_31 (by decide) ?_
  refine lv_iconst (v := 5) hx hb dX10_copyFrom_32 (by decide) ?_
  refine t_cp (lo := 0) (hi := 9) hx hb (hml.trans hl.1.symm) hts hown mw_5_205 ⟨mw_3_239, mw_3_238, mw_1_20⟩ hK hLA hB hS mb_11 tb_11 ai_55 mb_12 tb_12 ai_86 (fun _ => ⟨show (0 : Int) ≤ 0 by decide, show (9 : Int) ≤ 9 by decide⟩) (fun _ => rfl) (by decide) (by decide) (by decide) (by decide) (by decide) (by decide) (Nat.le_of_ble_eq_true rfl) (Nat.le_of_ble_eq_true rfl) dX10_copyFrom_33 (fun H locs σ_13 eσ_13 hB hS => ?_)
  refine lv_aload_n hx hb dX10_copyFrom_36 rfl (lv_at hl 1 rfl) ?_
  refine t_gr hx hb hts hown hK hG hB mh1 th1 fq_10_3 rfl mw_2_2 dX10_copyFrom_37 (fun b_14 hb_14 mb_14 tb_14 => ?_)
  refine lv_iconst (v := 0) hx hb dX10_copyFrom_40 (by decide) ?_
  refine lv_aload_n hx hb dX10_copyFrom_41 rfl (lv_at hl 0 rfl) ?_
  refine t_gr hx hb hts hown hK hG hB mh0 th0 fq_13_3 rfl mw_2_2 dX10_copyFrom_42 (fun b_15 hb_15 mb_15 tb_15 => ?_)
  refine lv_iconst (v := 0) hx hb dX10_copyFrom_45 (by decide) ?_
  refine lv_bipush (v := 10) hx hb dX10_copyFrom_46 (by decide) ?_
  refine t_cp (lo := 0) (hi := 60) hx hb (hml.trans hl.1.symm) hts hown mw_5_205 ⟨mw_3_239, mw_3_238, mw_1_20⟩ hK hLA hB hS mb_14 tb_14 ai_56 mb_15 tb_15 ai_87 (fun _ => ⟨show (0 : Int) ≤ 0 by decide, show (60 : Int) ≤ 60 by decide⟩) (fun _ => rfl) (by decide) (by decide) (by decide) (by decide) (by decide) (by decide) (Nat.le_of_ble_eq_true rfl) (Nat.le_of_ble_eq_true rfl) dX10_copyFrom_48 (fun H locs σ_16 eσ_16 hB hS => ?_)
  refine lv_aload_n hx hb dX10_copyFrom_51 rfl (lv_at hl 1 rfl) ?_
  refine t_gr hx hb hts hown hK hG hB mh1 th1 fq_10_4 rfl mw_2_5 dX10_copyFrom_52 (fun b_17 hb_17 mb_17 tb_17 => ?_)
  refine lv_iconst (v := 0) hx hb dX10_copyFrom_55 (by decide) ?_
  refine lv_aload_n hx hb dX10_copyFrom_56 rfl (lv_at hl 0 rfl) ?_
  refine t_gr hx hb hts hown hK hG hB mh0 th0 fq_13_4 rfl mw_2_5 dX10_copyFrom_57 (fun b_18 hb_18 mb_18 tb_18 => ?_)
  refine lv_iconst (v := 0) hx hb dX10_copyFrom_60 (by decide) ?_
  refine lv_bipush (v := 10) hx hb dX10_copyFrom_61 (by decide) ?_
  refine t_cp (lo := 0) (hi := 7) hx hb (hml.trans hl.1.symm) hts hown mw_5_205 ⟨mw_3_239, mw_3_238, mw_1_20⟩ hK hLA hB hS mb_17 tb_17 ai_57 mb_18 tb_18 ai_88 (fun _ => ⟨show (0 : Int) ≤ 0 by decide, show (7 : Int) ≤ 7 by decide⟩) (fun _ => rfl) (by decide) (by decide) (by decide) (by decide) (by decide) (by decide) (Nat.le_of_ble_eq_true rfl) (Nat.le_of_ble_eq_true rfl) dX10_copyFrom_63 (fun H locs σ_19 eσ_19 hB hS => ?_)
  refine lv_aload_n hx hb dX10_copyFrom_66 rfl (lv_at hl 1 rfl) ?_
  refine t_gr hx hb hts hown hK hG hB mh1 th1 fq_10_5 rfl mw_2_8 dX10_copyFrom_67 (fun b_20 hb_20 mb_20 tb_20 => ?_)
  refine lv_iconst (v := 0) hx hb dX10_copyFrom_70 (by decide) ?_
  refine lv_aload_n hx hb dX10_copyFrom_71 rfl (lv_at hl 0 rfl) ?_
  refine t_gr hx hb hts hown hK hG hB mh0 th0 fq_13_5 rfl mw_2_8 dX10_copyFrom_72 (fun b_21 hb_21 mb_21 tb_21 => ?_)
  refine lv_iconst (v := 0) hx hb dX10_copyFrom_75 (by decide) ?_
  refine lv_bipush (v := 10) hx hb dX10_copyFrom_76 (by decide) ?_
  refine t_cp (lo := 0) (hi := 4) hx hb (hml.trans hl.1.symm) hts hown mw_5_205 ⟨mw_3_239, mw_3_238, mw_1_20⟩ hK hLA hB hS mb_20 tb_20 ai_58 mb_21 tb_21 ai_89 (fun _ => ⟨show (0 : Int) ≤ 0 by decide, show (4 : Int) ≤ 4 by decide⟩) (fun _ => rfl) (by decide) (by decide) (by decide) (by decide) (by decide) (by decide) (Nat.le_of_ble_eq_true rfl) (Nat.le_of_ble_eq_true rfl) dX10_copyFrom_78 (fun H locs σ_22 eσ_22 hB hS => ?_)
  refine lv_aload_n hx hb dX10_copyFrom_81 rfl (lv_at hl 0 rfl) ?_
  refine lv_aload_n hx hb dX10_copyFrom_82 rfl (lv_at hl 1 rfl) ?_
  refine t_gi hx hb hts hown hK hB mh1 th1 fi_10_6 rfl mw_2_11 dX10_copyFrom_83 (fun x_23 ex_23 lx_23 ux_23 => ?_)
  refine t_pi hx hb hts hown hK hLA hB hS mh0 th0 fi_13_6 rfl rfl rfl (by omega) (by omega) (Or.inl (by decide)) mw_2_11 dX10_copyFrom_86 (fun H locs σ_24 eσ_24 hB hS => ?_)
  have k_25 : σ_24 h0 6 = x_23 := by rw [eσ_24]; exact up2_same _ _ _ _
  refine lv_aload_n hx hb dX10_copyFrom_89 rfl (lv_at hl 0 rfl) ?_
  refine lv_aload_n hx hb dX10_copyFrom_90 rfl (lv_at hl 1 rfl) ?_
  refine t_gi hx hb hts hown hK hB mh1 th1 fi_10_7 rfl mw_2_14 dX10_copyFrom_91 (fun x_26 ex_26 lx_26 ux_26 => ?_)
  refine t_pi hx hb hts hown hK hLA hB hS mh0 th0 fi_13_7 rfl rfl rfl (i_lo _) (i_hi _) (Or.inl (by decide)) mw_2_14 dX10_copyFrom_94 (fun H locs σ_27 eσ_27 hB hS => ?_)
  have k_28 : σ_27 h0 7 = x_26 := by rw [eσ_27]; exact up2_same _ _ _ _
  refine lv_aload_n hx hb dX10_copyFrom_97 rfl (lv_at hl 0 rfl) ?_
  refine lv_aload_n hx hb dX10_copyFrom_98 rfl (lv_at hl 1 rfl) ?_
  refine t_gi hx hb hts hown hK hB mh1 th1 fi_10_8 rfl mw_2_16 dX10_copyFrom_99 (fun x_29 ex_29 lx_29 ux_29 => ?_)
  refine t_pi hx hb hts hown hK hLA hB hS mh0 th0 fi_13_8 rfl rfl rfl (i_lo _) (i_hi _) (Or.inl (by decide)) mw_2_16 dX10_copyFrom_102 (fun H locs σ_30 eσ_30 hB hS => ?_)
  have k_31 : σ_30 h0 8 = x_29 := by rw [eσ_30]; exact up2_same _ _ _ _
  exact W.vret hx hb hr (fun t ht hW => ⟨⟨(σ_30, ρ_9), rfl, ⟨hB.2.1, hB.2.2, trivial⟩, (show TP D cA L T r σ_30 ρ_9 t.heap from by rw [ht]; exact hB.1)⟩, hS.F ht⟩) hS.2.2 dX10_copyFrom_105
set_option maxHeartbeats 4000000 in
set_option maxRecDepth 100000 in
theorem cy_X10_copyFrom_10_13 (l : Launch) (D : va_G) (cA : Nat → ClassId) (L : List Nat) (T : Nat → Nat) (r : Rg) (hG : GR L T r) (hL : L.Nodup) (σ : Sg) (ρ : Lg) (hW : WT L ry T σ) (sz : Nat) (h0 : Nat) (mh0 : h0 ∈ L) (th0 : T h0 = 10) (h1 : Nat) (mh1 : h1 ∈ L) (th1 : T h1 = 13) : Met l yX10_copyFrom (.code yX10_copyFrom cX10_copyFrom 2 none :: wsA) ({ frames := 3, cells := 0, slots := 0, locals := 142 }) (PR D cA L T r σ ρ sz [.ref h0, .ref h1]) (QV D cA L T r ry [(3, 6), (3, 7), (3, 8), (3, 9), (3, 10), (8, 6), (8, 7), (10, 6), (10, 7), (10, 8), (33, 1000), (34, 1000), (35, 1000), (36, 1000), (37, 1000), (45, 1000), (46, 1000), (47, 1000), (48, 1000), (49, 1000), (50, 1000), (55, 1000), (56, 1000), (57, 1000), (58, 1000), (100, 6), (100, 7), (107, 1000), (108, 1000), (109, 1000), (110, 1000), (111, 1000), (112, 1000)] σ sz (fun σ1 => True)) 0 0 (dm L sz) := by
  refine Met.ofW (cc := cX10_copyFrom) (maxL := 2) (ret := none) (by decide) rfl ?_
  intro p e s m args below meth c s₁ B hml hv
  obtain ⟨rfl, hsz, hP, hK, hN⟩ := hv
  have hx := B.exec
  have hb := B.bytes
  have hr := B.returns
  have hts : ∀ w ∈ wsA, w.before _ s = true := fun w h => atoms_spec (ws := .code yX10_copyFrom cX10_copyFrom 2 none :: wsA) B.pre w (List.mem_cons_of_mem _ h)
  have hown : s.vm.findClass RX10 = some m.cls := findClass_of_methodNamed B.named
  subst hsz
  have hLA : LA (dm L s.heap.size) L := ⟨hL, fun a h => Or.inl h⟩
  have hA : ∀ q : Nat, s.heap.size ≤ q → dm L s.heap.size q := fun q h => Or.inr h
  have hS : va_S (dm L s.heap.size) s.heap s.heap [] := va_S.rf
  have hB : TS D cA L T r ry [(3, 6), (3, 7), (3, 8), (3, 9), (3, 10), (8, 6), (8, 7), (10, 6), (10, 7), (10, 8), (33, 1000), (34, 1000), (35, 1000), (36, 1000), (37, 1000), (45, 1000), (46, 1000), (47, 1000), (48, 1000), (49, 1000), (50, 1000), (55, 1000), (56, 1000), (57, 1000), (58, 1000), (100, 6), (100, 7), (107, 1000), (108, 1000), (109, 1000), (110, 1000), (111, 1000), (112, 1000)] σ σ ρ s.heap := ⟨hP, hW, FR.rf⟩
  have hl := lv_entry ([.ref h0, .ref h1]) (n := 2) (Nat.le_of_ble_eq_true rfl)
  rw [lg_entry_eq]
  generalize (lg_sl ([.ref h0, .ref h1]) ++ List.replicate (2 - (lg_sl ([.ref h0, .ref h1])).length) Slot.unset).toArray = ls at hl ⊢
  have hl : lv_has ls 2 [(0, .ref h0), (1, .ref h1)] := hl
  refine lv_aload_n hx hb dX10_copyFrom_0 rfl (lv_at hl 0 rfl) ?_
  refine t_gr hx hb hts hown hK hG hB mh0 th0 fq_10_0 rfl mw_1_233 dX10_copyFrom_1 (fun b_1 hb_1 mb_1 tb_1 => ?_)
  refine lv_aload_n hx hb dX10_copyFrom_4 rfl (lv_at hl 1 rfl) ?_
  refine t_gr hx hb hts hown hK hG hB mh1 th1 fq_13_0 rfl mw_1_233 dX10_copyFrom_5 (fun b_2 hb_2 mb_2 tb_2 => ?_)
  refine t_cv (va_runV (As := [.ref b_2]) (rest := []) ⟨hx, hb, hml, hown, hts⟩ (cy_X3_copyFrom_3_18 l D cA L T r hG hLA.1 σ ρ hB.2.1 _ b_1 mb_1 tb_1 b_2 mb_2 tb_2) (cV hts mv_X3_copyFrom mw_3_233 rfl rfl ⟨Nat.le_of_ble_eq_true rfl, Nat.le_of_ble_eq_true rfl⟩) (pV hB.1 hK hN mb_1 tb_1 (show shp cA 3 _ _ _ = .inr (3, Fs3 _ _ _) from rfl) rfl) rfl rfl hl.1 rfl (lv_room (Nat.le_of_ble_eq_true rfl)) dX10_copyFrom_8 ⟨Nat.le_of_ble_eq_true rfl, Nat.le_of_ble_eq_true rfl⟩) hLA hA hB hS (by decide) (fun σ_3 ρ_4 H locs hB fσ_3 pσ_3 hS => ?_)
  refine lv_aload_n hx hb dX10_copyFrom_11 rfl (lv_at hl 0 rfl) ?_
  refine t_gr hx hb hts hown hK hG hB mh0 th0 fq_10_1 rfl mw_1_237 dX10_copyFrom_12 (fun b_6 hb_6 mb_6 tb_6 => ?_)
  refine lv_aload_n hx hb dX10_copyFrom_15 rfl (lv_at hl 1 rfl) ?_
  refine t_gr hx hb hts hown hK hG hB mh1 th1 fq_13_1 rfl mw_1_237 dX10_copyFrom_16 (fun b_7 hb_7 mb_7 tb_7 => ?_)
  refine t_cv (va_runV (As := [.ref b_7]) (rest := []) ⟨hx, hb, hml, hown, hts⟩ (cy_X8_copyFrom_8_105 l D cA L T r hG hLA.1 σ_3 ρ_4 hB.2.1 _ b_6 mb_6 tb_6 b_7 mb_7 tb_7) (cV hts mv_X8_copyFrom mw_4_5 rfl rfl ⟨Nat.le_of_ble_eq_true rfl, Nat.le_of_ble_eq_true rfl⟩) (pV hB.1 hK hN mb_6 tb_6 (show shp cA 8 _ _ _ = .inr (8, Fs8 _ _ _) from rfl) rfl) rfl rfl hl.1 rfl (lv_room (Nat.le_of_ble_eq_true rfl)) dX10_copyFrom_19 ⟨Nat.le_of_ble_eq_true rfl, Nat.le_of_ble_eq_true rfl⟩) hLA hA hB hS (by decide) (fun σ_8 ρ_9 H locs hB fσ_8 pσ_8 hS => ?_)
  refine lv_aload_n hx hb dX10_copyFrom_22 rfl (lv_at hl 1 rfl) ?_
  refine t_gr hx hb hts hown hK hG hB mh1 th1 fq_13_2 rfl mw_2_0 dX10_copyFrom_23 (fun b_11 hb_11 mb_11 tb_11 => ?_)
  refine lv_iconst (v := 0) hx hb dX10_copyFrom_26 (by decide) ?_
  refine lv_aload_n hx hb dX10_copyFrom_27 rfl (lv_at hl 0 rfl) ?_
  refine t_gr hx hb hts hown hK hG hB mh0 th0 fq_10_2 rfl mw_2_0 dX10_copyFrom_28 (fun b_12 hb_12 mb_12 tb_12 => ?_)
  refine lv_iconst (v := 0) hx hb dX10_copyFrom_31 (by decide) ?_
  refine lv_iconst (v := 5) hx hb dX10_copyFrom_32 (by decide) ?_
  refine t_cp (lo := 0) (hi := 9) hx hb (hml.trans hl.1.symm) hts hown mw_5_205 ⟨mw_3_239, mw_3_238, mw_1_20⟩ hK hLA hB hS mb_11 tb_11 ai_86 mb_12 tb_12 ai_55 (fun _ => ⟨show (0 : Int) ≤ 0 by decide, show (9 : Int) ≤ 9 by decide⟩) (fun _ => rfl) (by decide) (by decide) (by decide) (by decide) (by decide) (by decide) (Nat.le_of_ble_eq_true rfl) (Nat.le_of_ble_eq_true rfl) dX10_copyFrom_33 (fun H locs σ_13 eσ_13 hB hS => ?_)
  refine lv_aload_n hx hb dX10_copyFrom_36 rfl (lv_at hl 1 rfl) ?_
  refine t_gr hx hb hts hown hK hG hB mh1 th1 fq_13_3 rfl mw_2_2 dX10_copyFrom_37 (fun b_14 hb_14 mb_14 tb_14 => ?_)
  refine lv_iconst (v := 0) hx hb dX10_copyFrom_40 (by decide) ?_
  refine lv_aload_n hx hb dX10_copyFrom_41 rfl (lv_at hl 0 rfl) ?_
  refine t_gr hx hb hts hown hK hG hB mh0 th0 fq_10_3 rfl mw_2_2 dX10_copyFrom_42 (fun b_15 hb_15 mb_15 tb_15 => ?_)
  refine lv_iconst (v := 0) hx hb dX10_copyFrom_45 (by decide) ?_
  refine lv_bipush (v := 10) hx hb dX10_copyFrom_46 (by decide) ?_
  refine t_cp (lo := 0) (hi := 60) hx hb (hml.trans hl.1.symm) hts hown mw_5_205 ⟨mw_3_239, mw_3_238, mw_1_20⟩ hK hLA hB hS mb_14 tb_14 ai_87 mb_15 tb_15 ai_56 (fun _ => ⟨show (0 : Int) ≤ 0 by decide, show (60 : Int) ≤ 60 by decide⟩) (fun _ => rfl) (by decide) (by decide) (by decide) (by decide) (by decide) (by decide) (Nat.le_of_ble_eq_true rfl) (Nat.le_of_ble_eq_true rfl) dX10_copyFrom_48 (fun H locs σ_16 eσ_16 hB hS => ?_)
  refine lv_aload_n hx hb dX10_copyFrom_51 rfl (lv_at hl 1 rfl) ?_
  refine t_gr hx hb hts hown hK hG hB mh1 th1 fq_13_4 rfl mw_2_5 dX10_copyFrom_52 (fun b_17 hb_17 mb_17 tb_17 => ?_)
  refine lv_iconst (v := 0) hx hb dX10_copyFrom_55 (by decide) ?_
  refine lv_aload_n hx hb dX10_copyFrom_56 rfl (lv_at hl 0 rfl) ?_
  refine t_gr hx hb hts hown hK hG hB mh0 th0 fq_10_4 rfl mw_2_5 dX10_copyFrom_57 (fun b_18 hb_18 mb_18 tb_18 => ?_)
  refine lv_iconst (v := 0) hx hb dX10_copyFrom_60 (by decide) ?_
  refine lv_bipush (v := 10) hx hb dX10_copyFrom_61 (by decide) ?_
  refine t_cp (lo := 0) (hi := 7) hx hb (hml.trans hl.1.symm) hts hown mw_5_205 ⟨mw_3_239, mw_3_238, mw_1_20⟩ hK hLA hB hS mb_17 tb_17 ai_88 mb_18 tb_18 ai_57 (fun _ => ⟨show (0 : Int) ≤ 0 by decide, show (7 : Int) ≤ 7 by decide⟩) (fun _ => rfl) (by decide) (by decide) (by decide) (by decide) (by decide) (by decide) (Nat.le_of_ble_eq_true rfl) (Nat.le_of_ble_eq_true rfl) dX10_copyFrom_63 (fun H locs σ_19 eσ_19 hB hS => ?_)
  refine lv_aload_n hx hb dX10_copyFrom_66 rfl (lv_at hl 1 rfl) ?_
  refine t_gr hx hb hts hown hK hG hB mh1 th1 fq_13_5 rfl mw_2_8 dX10_copyFrom_67 (fun b_20 hb_20 mb_20 tb_20 => ?_)
  refine lv_iconst (v := 0) hx hb dX10_copyFrom_70 (by decide) ?_
  refine lv_aload_n hx hb dX10_copyFrom_71 rfl (lv_at hl 0 rfl) ?_
  refine t_gr hx hb hts hown hK hG hB mh0 th0 fq_10_5 rfl mw_2_8 dX10_copyFrom_72 (fun b_21 hb_21 mb_21 tb_21 => ?_)
  refine lv_iconst (v := 0) hx hb dX10_copyFrom_75 (by decide) ?_
  refine lv_bipush (v := 10) hx hb dX10_copyFrom_76 (by decide) ?_
  refine t_cp (lo := 0) (hi := 4) hx hb (hml.trans hl.1.symm) hts hown mw_5_205 ⟨mw_3_239, mw_3_238, mw_1_20⟩ hK hLA hB hS mb_20 tb_20 ai_89 mb_21 tb_21 ai_58 (fun _ => ⟨show (0 : Int) ≤ 0 by decide, show (4 : Int) ≤ 4 by decide⟩) (fun _ => rfl) (by decide) (by decide) (by decide) (by decide) (by decide) (by decide) (Nat.le_of_ble_eq_true rfl) (Nat.le_of_ble_eq_true rfl) dX10_copyFrom_78 (fun H locs σ_22 eσ_22 hB hS => ?_)
  refine lv_aload_n hx hb dX10_copyFrom_81 rfl (lv_at hl 0 rfl) ?_
  refine lv_aload_n hx hb dX10_copyFrom_82 rfl (lv_at hl 1 rfl) ?_
  refine t_gi hx hb hts hown hK hB mh1 th1 fi_13_6 rfl mw_2_11 dX10_copyFrom_83 (fun x_23 ex_23 lx_23 ux_23 => ?_)
  refine t_pi hx hb hts hown hK hLA hB hS mh0 th0 fi_10_6 rfl rfl rfl (by omega) (by omega) (Or.inl (by decide)) mw_2_11 dX10_copyFrom_86 (fun H locs σ_24 eσ_24 hB hS => ?_)
  have k_25 : σ_24 h0 6 = x_23 := by rw [eσ_24]; exact up2_same _ _ _ _
  refine lv_aload_n hx hb dX10_copyFrom_89 rfl (lv_at hl 0 rfl) ?_
  refine lv_aload_n hx hb dX10_copyFrom_90 rfl (lv_at hl 1 rfl) ?_
  refine t_gi hx hb hts hown hK hB mh1 th1 fi_13_7 rfl mw_2_14 dX10_copyFrom_91 (fun x_26 ex_26 lx_26 ux_26 => ?_)
  refine t_pi hx hb hts hown hK hLA hB hS mh0 th0 fi_10_7 rfl rfl rfl (i_lo _) (i_hi _) (Or.inl (by decide)) mw_2_14 dX10_copyFrom_94 (fun H locs σ_27 eσ_27 hB hS => ?_)
  have k_28 : σ_27 h0 7 = x_26 := by rw [eσ_27]; exact up2_same _ _ _ _
  refine lv_aload_n hx hb dX10_copyFrom_97 rfl (lv_at hl 0 rfl) ?_
  refine lv_aload_n hx hb dX10_copyFrom_98 rfl (lv_at hl 1 rfl) ?_
  refine t_gi hx hb hts hown hK hB mh1 th1 fi_13_8 rfl mw_2_16 dX10_copyFrom_99 (fun x_29 ex_29 lx_29 ux_29 => ?_)
  refine t_pi hx hb hts hown hK hLA hB hS mh0 th0 fi_10_8 rfl rfl rfl (i_lo _) (i_hi _) (Or.inl (by decide)) mw_2_16 dX10_copyFrom_102 (fun H locs σ_30 eσ_30 hB hS => ?_)
  have k_31 : σ_30 h0 8 = x_29 := by rw [eσ_30]; exact up2_same _ _ _ _
  exact W.vret hx hb hr (fun t ht hW => ⟨⟨(σ_30, ρ_9), rfl, ⟨hB.2.1, hB.2.2, trivial⟩, (show TP D cA L T r σ_30 ρ_9 t.heap from by rw [ht]; exact hB.1)⟩, hS.F ht⟩) hS.2.2 dX10_copyFrom_105
set_option maxHeartbeats 4000000 in
set_option maxRecDepth 100000 in
theorem cy_X10_copyFrom_14_10 (l : Launch) (D : va_G) (cA : Nat → ClassId) (L : List Nat) (T : Nat → Nat) (r : Rg) (hG : GR L T r) (hL : L.Nodup) (σ : Sg) (ρ : Lg) (hW : WT L ry T σ) (sz : Nat) (h0 : Nat) (mh0 : h0 ∈ L) (th0 : T h0 = 14) (h1 : Nat) (mh1 : h1 ∈ L) (th1 : T h1 = 10) : Met l yX10_copyFrom (.code yX10_copyFrom cX10_copyFrom 2 none :: wsA) ({ frames := 3, cells := 0, slots := 0, locals := 142 }) (PR D cA L T r σ ρ sz [.ref h0, .ref h1]) (QV D cA L T r ry [(14, 6), (14, 7), (14, 8), (18, 6), (18, 7), (18, 8), (18, 9), (18, 10), (86, 1000), (87, 1000), (88, 1000), (89, 1000), (95, 1000), (96, 1000), (97, 1000), (98, 1000), (99, 1000), (105, 6), (105, 7), (106, 6), (106, 7), (137, 1000), (138, 1000), (139, 1000), (140, 1000), (141, 1000), (142, 1000), (143, 1000), (144, 1000), (145, 1000), (146, 1000), (147, 1000), (148, 1000)] σ sz (fun σ1 => True)) 0 0 (dm L sz) := by
  refine Met.ofW (cc := cX10_copyFrom) (maxL := 2) (ret := none) (by decide) rfl ?_
  intro p e s m args below meth c s₁ B hml hv
  obtain ⟨rfl, hsz, hP, hK, hN⟩ := hv
  have hx := B.exec
  have hb := B.bytes
  have hr := B.returns
  have hts : ∀ w ∈ wsA, w.before _ s = true := fun w h => atoms_spec (ws := .code yX10_copyFrom cX10_copyFrom 2 none :: wsA) B.pre w (List.mem_cons_of_mem _ h)
  have hown : s.vm.findClass RX10 = some m.cls := findClass_of_methodNamed B.named
  subst hsz
  have hLA : LA (dm L s.heap.size) L := ⟨hL, fun a h => Or.inl h⟩
  have hA : ∀ q : Nat, s.heap.size ≤ q → dm L s.heap.size q := fun q h => Or.inr h
  have hS : va_S (dm L s.heap.size) s.heap s.heap [] := va_S.rf
  have hB : TS D cA L T r ry [(14, 6), (14, 7), (14, 8), (18, 6), (18, 7), (18, 8), (18, 9), (18, 10), (86, 1000), (87, 1000), (88, 1000), (89, 1000), (95, 1000), (96, 1000), (97, 1000), (98, 1000), (99, 1000), (105, 6), (105, 7), (106, 6), (106, 7), (137, 1000), (138, 1000), (139, 1000), (140, 1000), (141, 1000), (142, 1000), (143, 1000), (144, 1000), (145, 1000), (146, 1000), (147, 1000), (148, 1000)] σ σ ρ s.heap := ⟨hP, hW, FR.rf⟩
  have hl := lv_entry ([.ref h0, .ref h1]) (n := 2) (Nat.le_of_ble_eq_true rfl)
  rw [lg_entry_eq]
  generalize (lg_sl ([.ref h0, .ref h1]) ++ List.replicate (2 - (lg_sl ([.ref h0, .ref h1])).length) Slot.unset).toArray = ls at hl ⊢
  have hl : lv_has ls 2 [(0, .ref h0), (1, .ref h1)] := hl
  refine lv_aload_n hx hb dX10_copyFrom_0 rfl (lv_at hl 0 rfl) ?_
  refine t_gr hx hb hts hown hK hG hB mh0 th0 fq_14_0 rfl mw_1_233 dX10_copyFrom_1 (fun b_1 hb_1 mb_1 tb_1 => ?_)
  refine lv_aload_n hx hb dX10_copyFrom_4 rfl (lv_at hl 1 rfl) ?_
  refine t_gr hx hb hts hown hK hG hB mh1 th1 fq_10_0 rfl mw_1_233 dX10_copyFrom_5 (fun b_2 hb_2 mb_2 tb_2 => ?_)
  refine t_cv (va_runV (As := [.ref b_2]) (rest := []) ⟨hx, hb, hml, hown, hts⟩ (cy_X3_copyFrom_18_3 l D cA L T r hG hLA.1 σ ρ hB.2.1 _ b_1 mb_1 tb_1 b_2 mb_2 tb_2) (cV hts mv_X3_copyFrom mw_3_233 rfl rfl ⟨Nat.le_of_ble_eq_true rfl, Nat.le_of_ble_eq_true rfl⟩) (pV hB.1 hK hN mb_1 tb_1 (show shp cA 18 _ _ _ = .inr (3, Fs3 _ _ _) from rfl) rfl) rfl rfl hl.1 rfl (lv_room (Nat.le_of_ble_eq_true rfl)) dX10_copyFrom_8 ⟨Nat.le_of_ble_eq_true rfl, Nat.le_of_ble_eq_true rfl⟩) hLA hA hB hS (by decide) (fun σ_3 ρ_4 H locs hB fσ_3 pσ_3 hS => ?_)
  refine lv_aload_n hx hb dX10_copyFrom_11 rfl (lv_at hl 0 rfl) ?_
  refine t_gr hx hb hts hown hK hG hB mh0 th0 fq_14_1 rfl mw_1_237 dX10_copyFrom_12 (fun b_6 hb_6 mb_6 tb_6 => ?_)
  refine lv_aload_n hx hb dX10_copyFrom_15 rfl (lv_at hl 1 rfl) ?_
  refine t_gr hx hb hts hown hK hG hB mh1 th1 fq_10_1 rfl mw_1_237 dX10_copyFrom_16 (fun b_7 hb_7 mb_7 tb_7 => ?_)
  refine t_cv (va_runV (As := [.ref b_7]) (rest := []) ⟨hx, hb, hml, hown, hts⟩ (cy_X8_copyFrom_105_8 l D cA L T r hG hLA.1 σ_3 ρ_4 hB.2.1 _ b_6 mb_6 tb_6 b_7 mb_7 tb_7) (cV hts mv_X8_copyFrom mw_4_5 rfl rfl ⟨Nat.le_of_ble_eq_true rfl, Nat.le_of_ble_eq_true rfl⟩) (pV hB.1 hK hN mb_6 tb_6 (show shp cA 105 _ _ _ = .inr (8, Fs8 _ _ _) from rfl) rfl) rfl rfl hl.1 rfl (lv_room (Nat.le_of_ble_eq_true rfl)) dX10_copyFrom_19 ⟨Nat.le_of_ble_eq_true rfl, Nat.le_of_ble_eq_true rfl⟩) hLA hA hB hS (by decide) (fun σ_8 ρ_9 H locs hB fσ_8 pσ_8 hS => ?_)
  refine lv_aload_n hx hb dX10_copyFrom_22 rfl (lv_at hl 1 rfl) ?_
  refine t_gr hx hb hts hown hK hG hB mh1 th1 fq_10_2 rfl mw_2_0 dX10_copyFrom_23 (fun b_11 hb_11 mb_11 tb_11 => ?_)
  refine lv_iconst (v := 0) hx hb dX10_copyFrom_26 (by decide) ?_
  refine lv_aload_n hx hb dX10_copyFrom_27 rfl (lv_at hl 0 rfl) ?_
  refine t_gr hx hb hts hown hK hG hB mh0 th0 fq_14_2 rfl mw_2_0 dX10_copyFrom_28 (fun b_12 hb_12 mb_12 tb_12 => ?_)
  refine lv_iconst (v := 0) hx hb dX10_copyFrom_31 (by decide) ?_
  refine lv_iconst (v := 5) hx hb dX10_copyFrom_32 (by decide) ?_
  refine t_cp (lo := 0) (hi := 9) hx hb (hml.trans hl.1.symm) hts hown mw_5_205 ⟨mw_3_239, mw_3_238, mw_1_20⟩ hK hLA hB hS mb_11 tb_11 ai_55 mb_12 tb_12 ai_86 (fun _ => ⟨show (0 : Int) ≤ 0 by decide, show (9 : Int) ≤ 9 by decide⟩) (fun _ => rfl) (by decide) (by decide) (by decide) (by decide) (by decide) (by decide) (Nat.le_of_ble_eq_true rfl) (Nat.le_of_ble_eq_true rfl) dX10_copyFrom_33 (fun H locs σ_13 eσ_13 hB hS => ?_)
  refine lv_aload_n hx hb dX10_copyFrom_36 rfl (lv_at hl 1 rfl) ?_
  refine t_gr hx hb hts hown hK hG hB mh1 th1 fq_10_3 rfl mw_2_2 dX10_copyFrom_37 (fun b_14 hb_14 mb_14 tb_14 => ?_)
  refine lv_iconst (v := 0) hx hb dX10_copyFrom_40 (by decide) ?_
  refine lv_aload_n hx hb dX10_copyFrom_41 rfl (lv_at hl 0 rfl) ?_
  refine t_gr hx hb hts hown hK hG hB mh0 th0 fq_14_3 rfl mw_2_2 dX10_copyFrom_42 (fun b_15 hb_15 mb_15 tb_15 => ?_)
  refine lv_iconst (v := 0) hx hb dX10_copyFrom_45 (by decide) ?_
  refine lv_bipush (v := 10) hx hb dX10_copyFrom_46 (by decide) ?_
  refine t_cp (lo := 0) (hi := 60) hx hb (hml.trans hl.1.symm) hts hown mw_5_205 ⟨mw_3_239, mw_3_238, mw_1_20⟩ hK hLA hB hS mb_14 tb_14 ai_56 mb_15 tb_15 ai_87 (fun _ => ⟨show (0 : Int) ≤ 0 by decide, show (60 : Int) ≤ 60 by decide⟩) (fun _ => rfl) (by decide) (by decide) (by decide) (by decide) (by decide) (by decide) (Nat.le_of_ble_eq_true rfl) (Nat.le_of_ble_eq_true rfl) dX10_copyFrom_48 (fun H locs σ_16 eσ_16 hB hS => ?_)
  refine lv_aload_n hx hb dX10_copyFrom_51 rfl (lv_at hl 1 rfl) ?_
  refine t_gr hx hb hts hown hK hG hB mh1 th1 fq_10_4 rfl mw_2_5 dX10_copyFrom_52 (fun b_17 hb_17 mb_17 tb_17 => ?_)
  refine lv_iconst (v := 0) hx hb dX10_copyFrom_55 (by decide) ?_
  refine lv_aload_n hx hb dX10_copyFrom_56 rfl (lv_at hl 0 rfl) ?_
  refine t_gr hx hb hts hown hK hG hB mh0 th0 fq_14_4 rfl mw_2_5 dX10_copyFrom_57 (fun b_18 hb_18 mb_18 tb_18 => ?_)
  refine lv_iconst (v := 0) hx hb dX10_copyFrom_60 (by decide) ?_
  refine lv_bipush (v := 10) hx hb dX10_copyFrom_61 (by decide) ?_
  refine t_cp (lo := 0) (hi := 7) hx hb (hml.trans hl.1.symm) hts hown mw_5_205 ⟨mw_3_239, mw_3_238, mw_1_20⟩ hK hLA hB hS mb_17 tb_17 ai_57 mb_18 tb_18 ai_88 (fun _ => ⟨show (0 : Int) ≤ 0 by decide, show (7 : Int) ≤ 7 by decide⟩) (fun _ => rfl) (by decide) (by decide) (by decide) (by decide) (by decide) (by decide) (Nat.le_of_ble_eq_true rfl) (Nat.le_of_ble_eq_true rfl) dX10_copyFrom_63 (fun H locs σ_19 eσ_19 hB hS => ?_)
  refine lv_aload_n hx hb dX10_copyFrom_66 rfl (lv_at hl 1 rfl) ?_
  refine t_gr hx hb hts hown hK hG hB mh1 th1 fq_10_5 rfl mw_2_8 dX10_copyFrom_67 (fun b_20 hb_20 mb_20 tb_20 => ?_)
  refine lv_iconst (v := 0) hx hb dX10_copyFrom_70 (by decide) ?_
  refine lv_aload_n hx hb dX10_copyFrom_71 rfl (lv_at hl 0 rfl) ?_
  refine t_gr hx hb hts hown hK hG hB mh0 th0 fq_14_5 rfl mw_2_8 dX10_copyFrom_72 (fun b_21 hb_21 mb_21 tb_21 => ?_)
  refine lv_iconst (v := 0) hx hb dX10_copyFrom_75 (by decide) ?_
  refine lv_bipush (v := 10) hx hb dX10_copyFrom_76 (by decide) ?_
  refine t_cp (lo := 0) (hi := 4) hx hb (hml.trans hl.1.symm) hts hown mw_5_205 ⟨mw_3_239, mw_3_238, mw_1_20⟩ hK hLA hB hS mb_20 tb_20 ai_58 mb_21 tb_21 ai_89 (fun _ => ⟨show (0 : Int) ≤ 0 by decide, show (4 : Int) ≤ 4 by decide⟩) (fun _ => rfl) (by decide) (by decide) (by decide) (by decide) (by decide) (by decide) (Nat.le_of_ble_eq_true rfl) (Nat.le_of_ble_eq_true rfl) dX10_copyFrom_78 (fun H locs σ_22 eσ_22 hB hS => ?_)
  refine lv_aload_n hx hb dX10_copyFrom_81 rfl (lv_at hl 0 rfl) ?_
  refine lv_aload_n hx hb dX10_copyFrom_82 rfl (lv_at hl 1 rfl) ?_
  refine t_gi hx hb hts hown hK hB mh1 th1 fi_10_6 rfl mw_2_11 dX10_copyFrom_83 (fun x_23 ex_23 lx_23 ux_23 => ?_)
  refine t_pi hx hb hts hown hK hLA hB hS mh0 th0 fi_14_6 rfl rfl rfl (by omega) (by omega) (Or.inl (by decide)) mw_2_11 dX10_copyFrom_86 (fun H locs σ_24 eσ_24 hB hS => ?_)
  have k_25 : σ_24 h0 6 = x_23 := by rw [eσ_24]; exact up2_same _ _ _ _
  refine lv_aload_n hx hb dX10_copyFrom_89 rfl (lv_at hl 0 rfl) ?_
  refine lv_aload_n hx hb dX10_copyFrom_90 rfl (lv_at hl 1 rfl) ?_
  refine t_gi hx hb hts hown hK hB mh1 th1 fi_10_7 rfl mw_2_14 dX10_copyFrom_91 (fun x_26 ex_26 lx_26 ux_26 => ?_)
  refine t_pi hx hb hts hown hK hLA hB hS mh0 th0 fi_14_7 rfl rfl rfl (i_lo _) (i_hi _) (Or.inl (by decide)) mw_2_14 dX10_copyFrom_94 (fun H locs σ_27 eσ_27 hB hS => ?_)
  have k_28 : σ_27 h0 7 = x_26 := by rw [eσ_27]; exact up2_same _ _ _ _
  refine lv_aload_n hx hb dX10_copyFrom_97 rfl (lv_at hl 0 rfl) ?_
  refine lv_aload_n hx hb dX10_copyFrom_98 rfl (lv_at hl 1 rfl) ?_
  refine t_gi hx hb hts hown hK hB mh1 th1 fi_10_8 rfl mw_2_16 dX10_copyFrom_99 (fun x_29 ex_29 lx_29 ux_29 => ?_)
  refine t_pi hx hb hts hown hK hLA hB hS mh0 th0 fi_14_8 rfl rfl rfl (i_lo _) (i_hi _) (Or.inl (by decide)) mw_2_16 dX10_copyFrom_102 (fun H locs σ_30 eσ_30 hB hS => ?_)
  have k_31 : σ_30 h0 8 = x_29 := by rw [eσ_30]; exact up2_same _ _ _ _
  exact W.vret hx hb hr (fun t ht hW => ⟨⟨(σ_30, ρ_9), rfl, ⟨hB.2.1, hB.2.2, trivial⟩, (show TP D cA L T r σ_30 ρ_9 t.heap from by rw [ht]; exact hB.1)⟩, hS.F ht⟩) hS.2.2 dX10_copyFrom_105
set_option maxHeartbeats 4000000 in
set_option maxRecDepth 100000 in
theorem cy_X10_copyFrom_10_14 (l : Launch) (D : va_G) (cA : Nat → ClassId) (L : List Nat) (T : Nat → Nat) (r : Rg) (hG : GR L T r) (hL : L.Nodup) (σ : Sg) (ρ : Lg) (hW : WT L ry T σ) (sz : Nat) (h0 : Nat) (mh0 : h0 ∈ L) (th0 : T h0 = 10) (h1 : Nat) (mh1 : h1 ∈ L) (th1 : T h1 = 14) : Met l yX10_copyFrom (.code yX10_copyFrom cX10_copyFrom 2 none :: wsA) ({ frames := 3, cells := 0, slots := 0, locals := 142 }) (PR D cA L T r σ ρ sz [.ref h0, .ref h1]) (QV D cA L T r ry [(3, 6), (3, 7), (3, 8), (3, 9), (3, 10), (8, 6), (8, 7), (10, 6), (10, 7), (10, 8), (33, 1000), (34, 1000), (35, 1000), (36, 1000), (37, 1000), (45, 1000), (46, 1000), (47, 1000), (48, 1000), (49, 1000), (50, 1000), (55, 1000), (56, 1000), (57, 1000), (58, 1000), (100, 6), (100, 7), (107, 1000), (108, 1000), (109, 1000), (110, 1000), (111, 1000), (112, 1000)] σ sz (fun σ1 => True)) 0 0 (dm L sz) := by
  refine Met.ofW (cc := cX10_copyFrom) (maxL := 2) (ret := none) (by decide) rfl ?_
  intro p e s m args below meth c s₁ B hml hv
  obtain ⟨rfl, hsz, hP, hK, hN⟩ := hv
  have hx := B.exec
  have hb := B.bytes
  have hr := B.returns
  have hts : ∀ w ∈ wsA, w.before _ s = true := fun w h => atoms_spec (ws := .code yX10_copyFrom cX10_copyFrom 2 none :: wsA) B.pre w (List.mem_cons_of_mem _ h)
  have hown : s.vm.findClass RX10 = some m.cls := findClass_of_methodNamed B.named
  subst hsz
  have hLA : LA (dm L s.heap.size) L := ⟨hL, fun a h => Or.inl h⟩
  have hA : ∀ q : Nat, s.heap.size ≤ q → dm L s.heap.size q := fun q h => Or.inr h
  have hS : va_S (dm L s.heap.size) s.heap s.heap [] := va_S.rf
  have hB : TS D cA L T r ry [(3, 6), (3, 7), (3, 8), (3, 9), (3, 10), (8, 6), (8, 7), (10, 6), (10, 7), (10, 8), (33, 1000), (34, 1000), (35, 1000), (36, 1000), (37, 1000), (45, 1000), (46, 1000), (47, 1000), (48, 1000), (49, 1000), (50, 1000), (55, 1000), (56, 1000), (57, 1000), (58, 1000), (100, 6), (100, 7), (107, 1000), (108, 1000), (109, 1000), (110, 1000), (111, 1000), (112, 1000)] σ σ ρ s.heap := ⟨hP, hW, FR.rf⟩
  have hl := lv_entry ([.ref h0, .ref h1]) (n := 2) (Nat.le_of_ble_eq_true rfl)
  rw [lg_entry_eq]
  generalize (lg_sl ([.ref h0, .ref h1]) ++ List.replicate (2 - (lg_sl ([.ref h0, .ref h1])).length) Slot.unset).toArray = ls at hl ⊢
  have hl : lv_has ls 2 [(0, .ref h0), (1, .ref h1)] := hl
  refine lv_aload_n hx hb dX10_copyFrom_0 rfl (lv_at hl 0 rfl) ?_
  refine t_gr hx hb hts hown hK hG hB mh0 th0 fq_10_0 rfl mw_1_233 dX10_copyFrom_1 (fun b_1 hb_1 mb_1 tb_1 => ?_)
  refine lv_aload_n hx hb dX10_copyFrom_4 rfl (lv_at hl 1 rfl) ?_
  refine t_gr hx hb hts hown hK hG hB mh1 th1 fq_14_0 rfl mw_1_233 dX10_copyFrom_5 (fun b_2 hb_2 mb_2 tb_2 => ?_)
  refine t_cv (va_runV (As := [.ref b_2]) (rest := []) ⟨hx, hb, hml, hown, hts⟩ (cy_X3_copyFrom_3_18 l D cA L T r hG hLA.1 σ ρ hB.2.1 _ b_1 mb_1 tb_1 b_2 mb_2 tb_2) (cV hts mv_X3_copyFrom mw_3_233 rfl rfl ⟨Nat.le_of_ble_eq_true rfl, Nat.le_of_ble_eq_true rfl⟩) (pV hB.1 hK hN mb_1 tb_1 (show shp cA 3 _ _ _ = .inr (3, Fs3 _ _ _) from rfl) rfl) rfl rfl hl.1 rfl (lv_room (Nat.le_of_ble_eq_true rfl)) dX10_copyFrom_8 ⟨Nat.le_of_ble_eq_true rfl, Nat.le_of_ble_eq_true rfl⟩) hLA hA hB hS (by decide) (fun σ_3 ρ_4 H locs hB fσ_3 pσ_3 hS => ?_)
  refine lv_aload_n hx hb dX10_copyFrom_11 rfl (lv_at hl 0 rfl) ?_
  refine t_gr hx hb hts hown hK hG hB mh0 th0 fq_10_1 rfl mw_1_237 dX10_copyFrom_12 (fun b_6 hb_6 mb_6 tb_6 => ?_)
  refine lv_aload_n hx hb dX10_copyFrom_15 rfl (lv_at hl 1 rfl) ?_
  refine t_gr hx hb hts hown hK hG hB mh1 th1 fq_14_1 rfl mw_1_237 dX10_copyFrom_16 (fun b_7 hb_7 mb_7 tb_7 => ?_)
  refine t_cv (va_runV (As := [.ref b_7]) (rest := []) ⟨hx, hb, hml, hown, hts⟩ (cy_X8_copyFrom_8_105 l D cA L T r hG hLA.1 σ_3 ρ_4 hB.2.1 _ b_6 mb_6 tb_6 b_7 mb_7 tb_7) (cV hts mv_X8_copyFrom mw_4_5 rfl rfl ⟨Nat.le_of_ble_eq_true rfl, Nat.le_of_ble_eq_true rfl⟩) (pV hB.1 hK hN mb_6 tb_6 (show shp cA 8 _ _ _ = .inr (8, Fs8 _ _ _) from rfl) rfl) rfl rfl hl.1 rfl (lv_room (Nat.le_of_ble_eq_true rfl)) dX10_copyFrom_19 ⟨Nat.le_of_ble_eq_true rfl, Nat.le_of_ble_eq_true rfl⟩) hLA hA hB hS (by decide) (fun σ_8 ρ_9 H locs hB fσ_8 pσ_8 hS => ?_)
  refine lv_aload_n hx hb dX10_copyFrom_22 rfl (lv_at hl 1 rfl) ?_
  refine t_gr hx hb hts hown hK hG hB mh1 th1 fq_14_2 rfl mw_2_0 dX10_copyFrom_23 (fun b_11 hb_11 mb_11 tb_11 => ?_)
  refine lv_iconst (v := 0) hx hb dX10_copyFrom_26 (by decide) ?_
  refine lv_aload_n hx hb dX10_copyFrom_27 rfl (lv_at hl 0 rfl) ?_
  refine t_gr hx hb hts hown hK hG hB mh0 th0 fq_10_2 rfl mw_2_0 dX10_copyFrom_28 (fun b_12 hb_12 mb_12 tb_12 => ?_)
  refine lv_iconst (v := 0) hx hb dX10_copyFrom_31 (by decide) ?_
  refine lv_iconst (v := 5) hx hb dX10_copyFrom_32 (by decide) ?_
  refine t_cp (lo := 0) (hi := 9) hx hb (hml.trans hl.1.symm) hts hown mw_5_205 ⟨mw_3_239, mw_3_238, mw_1_20⟩ hK hLA hB hS mb_11 tb_11 ai_86 mb_12 tb_12 ai_55 (fun _ => ⟨show (0 : Int) ≤ 0 by decide, show (9 : Int) ≤ 9 by decide⟩) (fun _ => rfl) (by decide) (by decide) (by decide) (by decide) (by decide) (by decide) (Nat.le_of_ble_eq_true rfl) (Nat.le_of_ble_eq_true rfl) dX10_copyFrom_33 (fun H locs σ_13 eσ_13 hB hS => ?_)
  refine lv_aload_n hx hb dX10_copyFrom_36 rfl (lv_at hl 1 rfl) ?_
  refine t_gr hx hb hts hown hK hG hB mh1 th1 fq_14_3 rfl mw_2_2 dX10_copyFrom_37 (fun b_14 hb_14 mb_14 tb_14 => ?_)
  refine lv_iconst (v := 0) hx hb dX10_copyFrom_40 (by decide) ?_
  refine lv_aload_n hx hb dX10_copyFrom_41 rfl (lv_at hl 0 rfl) ?_
  refine t_gr hx hb hts hown hK hG hB mh0 th0 fq_10_3 rfl mw_2_2 dX10_copyFrom_42 (fun b_15 hb_15 mb_15 tb_15 => ?_)
  refine lv_iconst (v := 0) hx hb dX10_copyFrom_45 (by decide) ?_
  refine lv_bipush (v := 10) hx hb dX10_copyFrom_46 (by decide) ?_
  refine t_cp (lo := 0) (hi := 60) hx hb (hml.trans hl.1.symm) hts hown mw_5_205 ⟨mw_3_239, mw_3_238, mw_1_20⟩ hK hLA hB hS mb_14 tb_14 ai_87 mb_15 tb_15 ai_56 (fun _ => ⟨show (0 : Int) ≤ 0 by decide, show (60 : Int) ≤ 60 by decide⟩) (fun _ => rfl) (by decide) (by decide) (by decide) (by decide) (by decide) (by decide) (Nat.le_of_ble_eq_true rfl) (Nat.le_of_ble_eq_true rfl) dX10_copyFrom_48 (fun H locs σ_16 eσ_16 hB hS => ?_)
  refine lv_aload_n hx hb dX10_copyFrom_51 rfl (lv_at hl 1 rfl) ?_
  refine t_gr hx hb hts hown hK hG hB mh1 th1 fq_14_4 rfl mw_2_5 dX10_copyFrom_52 (fun b_17 hb_17 mb_17 tb_17 => ?_)
  refine lv_iconst (v := 0) hx hb dX10_copyFrom_55 (by decide) ?_
  refine lv_aload_n hx hb dX10_copyFrom_56 rfl (lv_at hl 0 rfl) ?_
  refine t_gr hx hb hts hown hK hG hB mh0 th0 fq_10_4 rfl mw_2_5 dX10_copyFrom_57 (fun b_18 hb_18 mb_18 tb_18 => ?_)
  refine lv_iconst (v := 0) hx hb dX10_copyFrom_60 (by decide) ?_
  refine lv_bipush (v := 10) hx hb dX10_copyFrom_61 (by decide) ?_
  refine t_cp (lo := 0) (hi := 7) hx hb (hml.trans hl.1.symm) hts hown mw_5_205 ⟨mw_3_239, mw_3_238, mw_1_20⟩ hK hLA hB hS mb_17 tb_17 ai_88 mb_18 tb_18 ai_57 (fun _ => ⟨show (0 : Int) ≤ 0 by decide, show (7 : Int) ≤ 7 by decide⟩) (fun _ => rfl) (by decide) (by decide) (by decide) (by decide) (by decide) (by decide) (Nat.le_of_ble_eq_true rfl) (Nat.le_of_ble_eq_true rfl) dX10_copyFrom_63 (fun H locs σ_19 eσ_19 hB hS => ?_)
  refine lv_aload_n hx hb dX10_copyFrom_66 rfl (lv_at hl 1 rfl) ?_
  refine t_gr hx hb hts hown hK hG hB mh1 th1 fq_14_5 rfl mw_2_8 dX10_copyFrom_67 (fun b_20 hb_20 mb_20 tb_20 => ?_)
  refine lv_iconst (v := 0) hx hb dX10_copyFrom_70 (by decide) ?_
  refine lv_aload_n hx hb dX10_copyFrom_71 rfl (lv_at hl 0 rfl) ?_
  refine t_gr hx hb hts hown hK hG hB mh0 th0 fq_10_5 rfl mw_2_8 dX10_copyFrom_72 (fun b_21 hb_21 mb_21 tb_21 => ?_)
  refine lv_iconst (v := 0) hx hb dX10_copyFrom_75 (by decide) ?_
  refine lv_bipush (v := 10) hx hb dX10_copyFrom_76 (by decide) ?_
  refine t_cp (lo := 0) (hi := 4) hx hb (hml.trans hl.1.symm) hts hown mw_5_205 ⟨mw_3_239, mw_3_238, mw_1_20⟩ hK hLA hB hS mb_20 tb_20 ai_89 mb_21 tb_21 ai_58 (fun _ => ⟨show (0 : Int) ≤ 0 by decide, show (4 : Int) ≤ 4 by decide⟩) (fun _ => rfl) (by decide) (by decide) (by decide) (by decide) (by decide) (by decide) (Nat.le_of_ble_eq_true rfl) (Nat.le_of_ble_eq_true rfl) dX10_copyFrom_78 (fun H locs σ_22 eσ_22 hB hS => ?_)
  refine lv_aload_n hx hb dX10_copyFrom_81 rfl (lv_at hl 0 rfl) ?_
  refine lv_aload_n hx hb dX10_copyFrom_82 rfl (lv_at hl 1 rfl) ?_
  refine t_gi hx hb hts hown hK hB mh1 th1 fi_14_6 rfl mw_2_11 dX10_copyFrom_83 (fun x_23 ex_23 lx_23 ux_23 => ?_)
  refine t_pi hx hb hts hown hK hLA hB hS mh0 th0 fi_10_6 rfl rfl rfl (by omega) (by omega) (Or.inl (by decide)) mw_2_11 dX10_copyFrom_86 (fun H locs σ_24 eσ_24 hB hS => ?_)
  have k_25 : σ_24 h0 6 = x_23 := by rw [eσ_24]; exact up2_same _ _ _ _
  refine lv_aload_n hx hb dX10_copyFrom_89 rfl (lv_at hl 0 rfl) ?_
  refine lv_aload_n hx hb dX10_copyFrom_90 rfl (lv_at hl 1 rfl) ?_
  refine t_gi hx hb hts hown hK hB mh1 th1 fi_14_7 rfl mw_2_14 dX10_copyFrom_91 (fun x_26 ex_26 lx_26 ux_26 => ?_)
  refine t_pi hx hb hts hown hK hLA hB hS mh0 th0 fi_10_7 rfl rfl rfl (i_lo _) (i_hi _) (Or.inl (by decide)) mw_2_14 dX10_copyFrom_94 (fun H locs σ_27 eσ_27 hB hS => ?_)
  have k_28 : σ_27 h0 7 = x_26 := by rw [eσ_27]; exact up2_same _ _ _ _
  refine lv_aload_n hx hb dX10_copyFrom_97 rfl (lv_at hl 0 rfl) ?_
  refine lv_aload_n hx hb dX10_copyFrom_98 rfl (lv_at hl 1 rfl) ?_
  refine t_gi hx hb hts hown hK hB mh1 th1 fi_14_8 rfl mw_2_16 dX10_copyFrom_99 (fun x_29 ex_29 lx_29 ux_29 => ?_)
  refine t_pi hx hb hts hown hK hLA hB hS mh0 th0 fi_10_8 rfl rfl rfl (i_lo _) (i_hi _) (Or.inl (by decide)) mw_2_16 dX10_copyFrom_102 (fun H locs σ_30 eσ_30 hB hS => ?_)
  have k_31 : σ_30 h0 8 = x_29 := by rw [eσ_30]; exact up2_same _ _ _ _
  exact W.vret hx hb hr (fun t ht hW => ⟨⟨(σ_30, ρ_9), rfl, ⟨hB.2.1, hB.2.2, trivial⟩, (show TP D cA L T r σ_30 ρ_9 t.heap from by rw [ht]; exact hB.1)⟩, hS.F ht⟩) hS.2.2 dX10_copyFrom_105
set_option maxHeartbeats 4000000 in
set_option maxRecDepth 100000 in
theorem cy_X10_copyFrom_15_10 (l : Launch) (D : va_G) (cA : Nat → ClassId) (L : List Nat) (T : Nat → Nat) (r : Rg) (hG : GR L T r) (hL : L.Nodup) (σ : Sg) (ρ : Lg) (hW : WT L ry T σ) (sz : Nat) (h0 : Nat) (mh0 : h0 ∈ L) (th0 : T h0 = 15) (h1 : Nat) (mh1 : h1 ∈ L) (th1 : T h1 = 10) : Met l yX10_copyFrom (.code yX10_copyFrom cX10_copyFrom 2 none :: wsA) ({ frames := 3, cells := 0, slots := 0, locals := 142 }) (PR D cA L T r σ ρ sz [.ref h0, .ref h1]) (QV D cA L T r ry [(15, 6), (15, 7), (15, 8), (18, 6), (18, 7), (18, 8), (18, 9), (18, 10), (86, 1000), (87, 1000), (88, 1000), (89, 1000), (95, 1000), (96, 1000), (97, 1000), (98, 1000), (99, 1000), (105, 6), (105, 7), (106, 6), (106, 7), (137, 1000), (138, 1000), (139, 1000), (140, 1000), (141, 1000), (142, 1000), (143, 1000), (144, 1000), (145, 1000), (146, 1000), (147, 1000), (148, 1000)] σ sz (fun σ1 => True)) 0 0 (dm L sz) := by
  refine Met.ofW (cc := cX10_copyFrom) (maxL := 2) (ret := none) (by decide) rfl ?_
  intro p e s m args below meth c s₁ B hml hv
  obtain ⟨rfl, hsz, hP, hK, hN⟩ := hv
  have hx := B.exec
  have hb := B.bytes
  have hr := B.returns
  have hts : ∀ w ∈ wsA, w.before _ s = true := fun w h => atoms_spec (ws := .code yX10_copyFrom cX10_copyFrom 2 none :: wsA) B.pre w (List.mem_cons_of_mem _ h)
  have hown : s.vm.findClass RX10 = some m.cls := findClass_of_methodNamed B.named
  subst hsz
  have hLA : LA (dm L s.heap.size) L := ⟨hL, fun a h => Or.inl h⟩
  have hA : ∀ q : Nat, s.heap.size ≤ q → dm L s.heap.size q := fun q h => Or.inr h
  have hS : va_S (dm L s.heap.size) s.heap s.heap [] := va_S.rf
  have hB : TS D cA L T r ry [(15, 6), (15, 7), (15, 8), (18, 6), (18, 7), (18, 8), (18, 9), (18, 10), (86, 1000), (87, 1000), (88, 1000), (89, 1000), (95, 1000), (96, 1000), (97, 1000), (98, 1000), (99, 1000), (105, 6), (105, 7), (106, 6), (106, 7), (137, 1000), (138, 1000), (139, 1000), (140, 1000), (141, 1000), (142, 1000), (143, 1000), (144, 1000), (145, 1000), (146, 1000), (147, 1000), (148, 1000)] σ σ ρ s.heap := ⟨hP, hW, FR.rf⟩
  have hl := lv_entry ([.ref h0, .ref h1]) (n := 2) (Nat.le_of_ble_eq_true rfl)
  rw [lg_entry_eq]
  generalize (lg_sl ([.ref h0, .ref h1]) ++ List.replicate (2 - (lg_sl ([.ref h0, .ref h1])).length) Slot.unset).toArray = ls at hl ⊢
  have hl : lv_has ls 2 [(0, .ref h0), (1, .ref h1)] := hl
  refine lv_aload_n hx hb dX10_copyFrom_0 rfl (lv_at hl 0 rfl) ?_
  refine t_gr hx hb hts hown hK hG hB mh0 th0 fq_15_0 rfl mw_1_233 dX10_copyFrom_1 (fun b_1 hb_1 mb_1 tb_1 => ?_)
  refine lv_aload_n hx hb dX10_copyFrom_4 rfl (lv_at hl 1 rfl) ?_
  refine t_gr hx hb hts hown hK hG hB mh1 th1 fq_10_0 rfl mw_1_233 dX10_copyFrom_5 (fun b_2 hb_2 mb_2 tb_2 => ?_)
  refine t_cv (va_runV (As := [.ref b_2]) (rest := []) ⟨hx, hb, hml, hown, hts⟩ (cy_X3_copyFrom_18_3 l D cA L T r hG hLA.1 σ ρ hB.2.1 _ b_1 mb_1 tb_1 b_2 mb_2 tb_2) (cV hts mv_X3_copyFrom mw_3_233 rfl rfl ⟨Nat.le_of_ble_eq_true rfl, Nat.le_of_ble_eq_true rfl⟩) (pV hB.1 hK hN mb_1 tb_1 (show shp cA 18 _ _ _ = .inr (3, Fs3 _ _ _) from rfl) rfl) rfl rfl hl.1 rfl (lv_room (Nat.le_of_ble_eq_true rfl)) dX10_copyFrom_8 ⟨Nat.le_of_ble_eq_true rfl, Nat.le_of_ble_eq_true rfl⟩) hLA hA hB hS (by decide) (fun σ_3 ρ_4 H locs hB fσ_3 pσ_3 hS => ?_)
  refine lv_aload_n hx hb dX10_copyFrom_11 rfl (lv_at hl 0 rfl) ?_
  refine t_gr hx hb hts hown hK hG hB mh0 th0 fq_15_1 rfl mw_1_237 dX10_copyFrom_12 (fun b_6 hb_6 mb_6 tb_6 => ?_)
  refine lv_aload_n hx hb dX10_copyFrom_15 rfl (lv_at hl 1 rfl) ?_
  refine t_gr hx hb hts hown hK hG hB mh1 th1 fq_10_1 rfl mw_1_237 dX10_copyFrom_16 (fun b_7 hb_7 mb_7 tb_7 => ?_)
  refine t_cv (va_runV (As := [.ref b_7]) (rest := []) ⟨hx, hb, hml, hown, hts⟩ (cy_X8_copyFrom_105_8 l D cA L T r hG hLA.1 σ_3 ρ_4 hB.2.1 _ b_6 mb_6 tb_6 b_7 mb_7 tb_7) (cV hts mv_X8_copyFrom mw_4_5 rfl rfl ⟨Nat.le_of_ble_eq_true rfl, Nat.le_of_ble_eq_true rfl⟩) (pV hB.1 hK hN mb_6 tb_6 (show shp cA 105 _ _ _ = .inr (8, Fs8 _ _ _) from rfl) rfl) rfl rfl hl.1 rfl (lv_room (Nat.le_of_ble_eq_true rfl)) dX10_copyFrom_19 ⟨Nat.le_of_ble_eq_true rfl, Nat.le_of_ble_eq_true rfl⟩) hLA hA hB hS (by decide) (fun σ_8 ρ_9 H locs hB fσ_8 pσ_8 hS => ?_)
  refine lv_aload_n hx hb dX10_copyFrom_22 rfl (lv_at hl 1 rfl) ?_
  refine t_gr hx hb hts hown hK hG hB mh1 th1 fq_10_2 rfl mw_2_0 dX10_copyFrom_23 (fun b_11 hb_11 mb_11 tb_11 => ?_)
  refine lv_iconst (v := 0) hx hb dX10_copyFrom_26 (by decide) ?_
  refine lv_aload_n hx hb dX10_copyFrom_27 rfl (lv_at hl 0 rfl) ?_
  refine t_gr hx hb hts hown hK hG hB mh0 th0 fq_15_2 rfl mw_2_0 dX10_copyFrom_28 (fun b_12 hb_12 mb_12 tb_12 => ?_)
  refine lv_iconst (v := 0) hx hb dX10_copyFrom_31 (by decide) ?_
  refine lv_iconst (v := 5) hx hb dX10_copyFrom_32 (by decide) ?_
  refine t_cp (lo := 0) (hi := 9) hx hb (hml.trans hl.1.symm) hts hown mw_5_205 ⟨mw_3_239, mw_3_238, mw_1_20⟩ hK hLA hB hS mb_11 tb_11 ai_55 mb_12 tb_12 ai_86 (fun _ => ⟨show (0 : Int) ≤ 0 by decide, show (9 : Int) ≤ 9 by decide⟩) (fun _ => rfl) (by decide) (by decide) (by decide) (by decide) (by decide) (by decide) (Nat.le_of_ble_eq_true rfl) (Nat.le_of_ble_eq_true rfl) dX10_copyFrom_33 (fun H locs σ_13 eσ_13 hB hS => ?_)
  refine lv_aload_n hx hb dX10_copyFrom_36 rfl (lv_at hl 1 rfl) ?_
  refine t_gr hx hb hts hown hK hG hB mh1 th1 fq_10_3 rfl mw_2_2 dX10_copyFrom_37 (fun b_14 hb_14 mb_14 tb_14 => ?_)
  refine lv_iconst (v := 0) hx hb dX10_copyFrom_40 (by decide) ?_
  refine lv_aload_n hx hb dX10_copyFrom_41 rfl (lv_at hl 0 rfl) ?_
  refine t_gr hx hb hts hown hK hG hB mh0 th0 fq_15_3 rfl mw_2_2 dX10_copyFrom_42 (fun b_15 hb_15 mb_15 tb_15 => ?_)
  refine lv_iconst (v := 0) hx hb dX10_copyFrom_45 (by decide) ?_
  refine lv_bipush (v := 10) hx hb dX10_copyFrom_46 (by decide) ?_
  refine t_cp (lo := 0) (hi := 60) hx hb (hml.trans hl.1.symm) hts hown mw_5_205 ⟨mw_3_239, mw_3_238, mw_1_20⟩ hK hLA hB hS mb_14 tb_14 ai_56 mb_15 tb_15 ai_87 (fun _ => ⟨show (0 : Int) ≤ 0 by decide, show (60 : Int) ≤ 60 by decide⟩) (fun _ => rfl) (by decide) (by decide) (by decide) (by decide) (by decide) (by decide) (Nat.le_of_ble_eq_true rfl) (Nat.le_of_ble_eq_true rfl) dX10_copyFrom_48 (fun H locs σ_16 eσ_16 hB hS => ?_)
  refine lv_aload_n hx hb dX10_copyFrom_51 rfl (lv_at hl 1 rfl) ?_
  refine t_gr hx hb hts hown hK hG hB mh1 th1 fq_10_4 rfl mw_2_5 dX10_copyFrom_52 (fun b_17 hb_17 mb_17 tb_17 => ?_)
  refine lv_iconst (v := 0) hx hb dX10_copyFrom_55 (by decide) ?_
  refine lv_aload_n hx hb dX10_copyFrom_56 rfl (lv_at hl 0 rfl) ?_
  refine t_gr hx hb hts hown hK hG hB mh0 th0 fq_15_4 rfl mw_2_5 dX10_copyFrom_57 (fun b_18 hb_18 mb_18 tb_18 => ?_)
  refine lv_iconst (v := 0) hx hb dX10_copyFrom_60 (by decide) ?_
  refine lv_bipush (v := 10) hx hb dX10_copyFrom_61 (by decide) ?_
  refine t_cp (lo := 0) (hi := 7) hx hb (hml.trans hl.1.symm) hts hown mw_5_205 ⟨mw_3_239, mw_3_238, mw_1_20⟩ hK hLA hB hS mb_17 tb_17 ai_57 mb_18 tb_18 ai_88 (fun _ => ⟨show (0 : Int) ≤ 0 by decide, show (7 : Int) ≤ 7 by decide⟩) (fun _ => rfl) (by decide) (by decide) (by decide) (by decide) (by decide) (by decide) (Nat.le_of_ble_eq_true rfl) (Nat.le_of_ble_eq_true rfl) dX10_copyFrom_63 (fun H locs σ_19 eσ_19 hB hS => ?_)
  refine lv_aload_n hx hb dX10_copyFrom_66 rfl (lv_at hl 1 rfl) ?_
  refine t_gr hx hb hts hown hK hG hB mh1 th1 fq_10_5 rfl mw_2_8 dX10_copyFrom_67 (fun b_20 hb_20 mb_20 tb_20 => ?_)
  refine lv_iconst (v := 0) hx hb dX10_copyFrom_70 (by decide) ?_
  refine lv_aload_n hx hb dX10_copyFrom_71 rfl (lv_at hl 0 rfl) ?_
  refine t_gr hx hb hts hown hK hG hB mh0 th0 fq_15_5 rfl mw_2_8 dX10_copyFrom_72 (fun b_21 hb_21 mb_21 tb_21 => ?_)
  refine lv_iconst (v := 0) hx hb dX10_copyFrom_75 (by decide) ?_
  refine lv_bipush (v := 10) hx hb dX10_copyFrom_76 (by decide) ?_
  refine t_cp (lo := 0) (hi := 4) hx hb (hml.trans hl.1.symm) hts hown mw_5_205 ⟨mw_3_239, mw_3_238, mw_1_20⟩ hK hLA hB hS mb_20 tb_20 ai_58 mb_21 tb_21 ai_89 (fun _ => ⟨show (0 : Int) ≤ 0 by decide, show (4 : Int) ≤ 4 by decide⟩) (fun _ => rfl) (by decide) (by decide) (by decide) (by decide) (by decide) (by decide) (Nat.le_of_ble_eq_true rfl) (Nat.le_of_ble_eq_true rfl) dX10_copyFrom_78 (fun H locs σ_22 eσ_22 hB hS => ?_)
  refine lv_aload_n hx hb dX10_copyFrom_81 rfl (lv_at hl 0 rfl) ?_
  refine lv_aload_n hx hb dX10_copyFrom_82 rfl (lv_at hl 1 rfl) ?_
  refine t_gi hx hb hts hown hK hB mh1 th1 fi_10_6 rfl mw_2_11 dX10_copyFrom_83 (fun x_23 ex_23 lx_23 ux_23 => ?_)
  refine t_pi hx hb hts hown hK hLA hB hS mh0 th0 fi_15_6 rfl rfl rfl (by omega) (by omega) (Or.inl (by decide)) mw_2_11 dX10_copyFrom_86 (fun H locs σ_24 eσ_24 hB hS => ?_)
  have k_25 : σ_24 h0 6 = x_23 := by rw [eσ_24]; exact up2_same _ _ _ _
  refine lv_aload_n hx hb dX10_copyFrom_89 rfl (lv_at hl 0 rfl) ?_
  refine lv_aload_n hx hb dX10_copyFrom_90 rfl (lv_at hl 1 rfl) ?_
  refine t_gi hx hb hts hown hK hB mh1 th1 fi_10_7 rfl mw_2_14 dX10_copyFrom_91 (fun x_26 ex_26 lx_26 ux_26 => ?_)
  refine t_pi hx hb hts hown hK hLA hB hS mh0 th0 fi_15_7 rfl rfl rfl (i_lo _) (i_hi _) (Or.inl (by decide)) mw_2_14 dX10_copyFrom_94 (fun H locs σ_27 eσ_27 hB hS => ?_)
  have k_28 : σ_27 h0 7 = x_26 := by rw [eσ_27]; exact up2_same _ _ _ _
  refine lv_aload_n hx hb dX10_copyFrom_97 rfl (lv_at hl 0 rfl) ?_
  refine lv_aload_n hx hb dX10_copyFrom_98 rfl (lv_at hl 1 rfl) ?_
  refine t_gi hx hb hts hown hK hB mh1 th1 fi_10_8 rfl mw_2_16 dX10_copyFrom_99 (fun x_29 ex_29 lx_29 ux_29 => ?_)
  refine t_pi hx hb hts hown hK hLA hB hS mh0 th0 fi_15_8 rfl rfl rfl (i_lo _) (i_hi _) (Or.inl (by decide)) mw_2_16 dX10_copyFrom_102 (fun H locs σ_30 eσ_30 hB hS => ?_)
  have k_31 : σ_30 h0 8 = x_29 := by rw [eσ_30]; exact up2_same _ _ _ _
  exact W.vret hx hb hr (fun t ht hW => ⟨⟨(σ_30, ρ_9), rfl, ⟨hB.2.1, hB.2.2, trivial⟩, (show TP D cA L T r σ_30 ρ_9 t.heap from by rw [ht]; exact hB.1)⟩, hS.F ht⟩) hS.2.2 dX10_copyFrom_105
set_option maxHeartbeats 4000000 in
set_option maxRecDepth 100000 in
theorem cy_X10_copyFrom_10_15 (l : Launch) (D : va_G) (cA : Nat → ClassId) (L : List Nat) (T : Nat → Nat) (r : Rg) (hG : GR L T r) (hL : L.Nodup) (σ : Sg) (ρ : Lg) (hW : WT L ry T σ) (sz : Nat) (h0 : Nat) (mh0 : h0 ∈ L) (th0 : T h0 = 10) (h1 : Nat) (mh1 : h1 ∈ L) (th1 : T h1 = 15) : Met l yX10_copyFrom (.code yX10_copyFrom cX10_copyFrom 2 none :: wsA) ({ frames := 3, cells := 0, slots := 0, locals := 142 }) (PR D cA L T r σ ρ sz [.ref h0, .ref h1]) (QV D cA L T r ry [(3, 6), (3, 7), (3, 8), (3, 9), (3, 10), (8, 6), (8, 7), (10, 6), (10, 7), (10, 8), (33, 1000), (34, 1000), (35, 1000), (36, 1000), (37, 1000), (45, 1000), (46, 1000), (47, 1000), (48, 1000), (49, 1000), (50, 1000), (55, 1000), (56, 1000), (57, 1000), (58, 1000), (100, 6), (100, 7), (107, 1000), (108, 1000), (109, 1000), (110, 1000), (111, 1000), (112, 1000)] σ sz (fun σ1 => True)) 0 0 (dm L sz) := by
  refine Met.ofW (cc := cX10_copyFrom) (maxL := 2) (ret := none) (by decide) rfl ?_
  intro p e s m args below meth c s₁ B hml hv
  obtain ⟨rfl, hsz, hP, hK, hN⟩ := hv
  have hx := B.exec
  have hb := B.bytes
  have hr := B.returns
  have hts : ∀ w ∈ wsA, w.before _ s = true := fun w h => atoms_spec (ws := .code yX10_copyFrom cX10_copyFrom 2 none :: wsA) B.pre w (List.mem_cons_of_mem _ h)
  have hown : s.vm.findClass RX10 = some m.cls := findClass_of_methodNamed B.named
  subst hsz
  have hLA : LA (dm L s.heap.size) L := ⟨hL, fun a h => Or.inl h⟩
  have hA : ∀ q : Nat, s.heap.size ≤ q → dm L s.heap.size q := fun q h => Or.inr h
  have hS : va_S (dm L s.heap.size) s.heap s.heap [] := va_S.rf
  have hB : TS D cA L T r ry [(3, 6), (3, 7), (3, 8), (3, 9), (3, 10), (8, 6), (8, 7), (10, 6), (10, 7), (10, 8), (33, 1000), (34, 1000), (35, 1000), (36, 1000), (37, 1000), (45, 1000), (46, 1000), (47, 1000), (48, 1000), (49, 1000), (50, 1000), (55, 1000), (56, 1000), (57, 1000), (58, 1000), (100, 6), (100, 7), (107, 1000), (108, 1000), (109, 1000), (110, 1000), (111, 1000), (112, 1000)] σ σ ρ s.heap := ⟨hP, hW, FR.rf⟩
  have hl := lv_entry ([.ref h0, .ref h1]) (n := 2) (Nat.le_of_ble_eq_true rfl)
  rw [lg_entry_eq]
  generalize (lg_sl ([.ref h0, .ref h1]) ++ List.replicate (2 - (lg_sl ([.ref h0, .ref h1])).length) Slot.unset).toArray = ls at hl ⊢
  have hl : lv_has ls 2 [(0, .ref h0), (1, .ref h1)] := hl
  refine lv_aload_n hx hb dX10_copyFrom_0 rfl (lv_at hl 0 rfl) ?_
  refine t_gr hx hb hts hown hK hG hB mh0 th0 fq_10_0 rfl mw_1_233 dX10_copyFrom_1 (fun b_1 hb_1 mb_1 tb_1 => ?_)
  refine lv_aload_n hx hb dX10_copyFrom_4 rfl (lv_at hl 1 rfl) ?_
  refine t_gr hx hb hts hown hK hG hB mh1 th1 fq_15_0 rfl mw_1_233 dX10_copyFrom_5 (fun b_2 hb_2 mb_2 tb_2 => ?_)
  refine t_cv (va_runV (As := [.ref b_2]) (rest := []) ⟨hx, hb, hml, hown, hts⟩ (cy_X3_copyFrom_3_18 l D cA L T r hG hLA.1 σ ρ hB.2.1 _ b_1 mb_1 tb_1 b_2 mb_2 tb_2) (cV hts mv_X3_copyFrom mw_3_233 rfl rfl ⟨Nat.le_of_ble_eq_true rfl, Nat.le_of_ble_eq_true rfl⟩) (pV hB.1 hK hN mb_1 tb_1 (show shp cA 3 _ _ _ = .inr (3, Fs3 _ _ _) from rfl) rfl) rfl rfl hl.1 rfl (lv_room (Nat.le_of_ble_eq_true rfl)) dX10_copyFrom_8 ⟨Nat.le_of_ble_eq_true rfl, Nat.le_of_ble_eq_true rfl⟩) hLA hA hB hS (by decide) (fun σ_3 ρ_4 H locs hB fσ_3 pσ_3 hS => ?_)
  refine lv_aload_n hx hb dX10_copyFrom_11 rfl (lv_at hl 0 rfl) ?_
  refine t_gr hx hb hts hown hK hG hB mh0 th0 fq_10_1 rfl mw_1_237 dX10_copyFrom_12 (fun b_6 hb_6 mb_6 tb_6 => ?_)
  refine lv_aload_n hx hb dX10_copyFrom_15 rfl (lv_at hl 1 rfl) ?_
  refine t_gr hx hb hts hown hK hG hB mh1 th1 fq_15_1 rfl mw_1_237 dX10_copyFrom_16 (fun b_7 hb_7 mb_7 tb_7 => ?_)
  refine t_cv (va_runV (As := [.ref b_7]) (rest := []) ⟨hx, hb, hml, hown, hts⟩ (cy_X8_copyFrom_8_105 l D cA L T r hG hLA.1 σ_3 ρ_4 hB.2.1 _ b_6 mb_6 tb_6 b_7 mb_7 tb_7) (cV hts mv_X8_copyFrom mw_4_5 rfl rfl ⟨Nat.le_of_ble_eq_true rfl, Nat.le_of_ble_eq_true rfl⟩) (pV hB.1 hK hN mb_6 tb_6 (show shp cA 8 _ _ _ = .inr (8, Fs8 _ _ _) from rfl) rfl) rfl rfl hl.1 rfl (lv_room (Nat.le_of_ble_eq_true rfl)) dX10_copyFrom_19 ⟨Nat.le_of_ble_eq_true rfl, Nat.le_of_ble_eq_true rfl⟩) hLA hA hB hS (by decide) (fun σ_8 ρ_9 H locs hB fσ_8 pσ_8 hS => ?_)
  refine lv_aload_n hx hb dX10_copyFrom_22 rfl (lv_at hl 1 rfl) ?_
  refine t_gr hx hb hts hown hK hG hB mh1 th1 fq_15_2 rfl mw_2_0 dX10_copyFrom_23 (fun b_11 hb_11 mb_11 tb_11 => ?_)
  refine lv_iconst (v := 0) hx hb dX10_copyFrom_26 (by decide) ?_
  refine lv_aload_n hx hb dX10_copyFrom_27 rfl (lv_at hl 0 rfl) ?_
  refine t_gr hx hb hts hown hK hG hB mh0 th0 fq_10_2 rfl mw_2_0 dX10_copyFrom_28 (fun b_12 hb_12 mb_12 tb_12 => ?_)
  refine lv_iconst (v := 0) hx hb dX10_copyFrom_31 (by decide) ?_
  refine lv_iconst (v := 5) hx hb dX10_copyFrom_32 (by decide) ?_
  refine t_cp (lo := 0) (hi := 9) hx hb (hml.trans hl.1.symm) hts hown mw_5_205 ⟨mw_3_239, mw_3_238, mw_1_20⟩ hK hLA hB hS mb_11 tb_11 ai_86 mb_12 tb_12 ai_55 (fun _ => ⟨show (0 : Int) ≤ 0 by decide, show (9 : Int) ≤ 9 by decide⟩) (fun _ => rfl) (by decide) (by decide) (by decide) (by decide) (by decide) (by decide) (Nat.le_of_ble_eq_true rfl) (Nat.le_of_ble_eq_true rfl) dX10_copyFrom_33 (fun H locs σ_13 eσ_13 hB hS => ?_)
  refine lv_aload_n hx hb dX10_copyFrom_36 rfl (lv_at hl 1 rfl) ?_
  refine t_gr hx hb hts hown hK hG hB mh1 th1 fq_15_3 rfl mw_2_2 dX10_copyFrom_37 (fun b_14 hb_14 mb_14 tb_14 => ?_)
  refine lv_iconst (v := 0) hx hb dX10_copyFrom_40 (by decide) ?_
  refine lv_aload_n hx hb dX10_copyFrom_41 rfl (lv_at hl 0 rfl) ?_
  refine t_gr hx hb hts hown hK hG hB mh0 th0 fq_10_3 rfl mw_2_2 dX10_copyFrom_42 (fun b_15 hb_15 mb_15 tb_15 => ?_)
  refine lv_iconst (v := 0) hx hb dX10_copyFrom_45 (by decide) ?_
  refine lv_bipush (v := 10) hx hb dX10_copyFrom_46 (by decide) ?_
  refine t_cp (lo := 0) (hi := 60) hx hb (hml.trans hl.1.symm) hts hown mw_5_205 ⟨mw_3_239, mw_3_238, mw_1_20⟩ hK hLA hB hS mb_14 tb_14 ai_87 mb_15 tb_15 ai_56 (fun _ => ⟨show (0 : Int) ≤ 0 by decide, show (60 : Int) ≤ 60 by decide⟩) (fun _ => rfl) (by decide) (by decide) (by decide) (by decide) (by decide) (by decide) (Nat.le_of_ble_eq_true rfl) (Nat.le_of_ble_eq_true rfl) dX10_copyFrom_48 (fun H locs σ_16 eσ_16 hB hS => ?_)
  refine lv_aload_n hx hb dX10_copyFrom_51 rfl (lv_at hl 1 rfl) ?_
  refine t_gr hx hb hts hown hK hG hB mh1 th1 fq_15_4 rfl mw_2_5 dX10_copyFrom_52 (fun b_17 hb_17 mb_17 tb_17 => ?_)
  refine lv_iconst (v := 0) hx hb dX10_copyFrom_55 (by decide) ?_
  refine lv_aload_n hx hb dX10_copyFrom_56 rfl (lv_at hl 0 rfl) ?_
  refine t_gr hx hb hts hown hK hG hB mh0 th0 fq_10_4 rfl mw_2_5 dX10_copyFrom_57 (fun b_18 hb_18 mb_18 tb_18 => ?_)
  refine lv_iconst (v := 0) hx hb dX10_copyFrom_60 (by decide) ?_
  refine lv_bipush (v := 10) hx hb dX10_copyFrom_61 (by decide) ?_
  refine t_cp (lo := 0) (hi := 7) hx hb (hml.trans hl.1.symm) hts hown mw_5_205 ⟨mw_3_239, mw_3_238, mw_1_20⟩ hK hLA hB hS mb_17 tb_17 ai_88 mb_18 tb_18 ai_57 (fun _ => ⟨show (0 : Int) ≤ 0 by decide, show (7 : Int) ≤ 7 by decide⟩) (fun _ => rfl) (by decide) (by decide) (by decide) (by decide) (by decide) (by decide) (Nat.le_of_ble_eq_true rfl) (Nat.le_of_ble_eq_true rfl) dX10_copyFrom_63 (fun H locs σ_19 eσ_19 hB hS => ?_)
  refine lv_aload_n hx hb dX10_copyFrom_66 rfl (lv_at hl 1 rfl) ?_
  refine t_gr hx hb hts hown hK hG hB mh1 th1 fq_15_5 rfl mw_2_8 dX10_copyFrom_67 (fun b_20 hb_20 mb_20 tb_20 => ?_)
  refine lv_iconst (v := 0) hx hb dX10_copyFrom_70 (by decide) ?_
  refine lv_aload_n hx hb dX10_copyFrom_71 rfl (lv_at hl 0 rfl) ?_
  refine t_gr hx hb hts hown hK hG hB mh0 th0 fq_10_5 rfl mw_2_8 dX10_copyFrom_72 (fun b_21 hb_21 mb_21 tb_21 => ?_)
  refine lv_iconst (v := 0) hx hb dX10_copyFrom_75 (by decide) ?_
  refine lv_bipush (v := 10) hx hb dX10_copyFrom_76 (by decide) ?_
  refine t_cp (lo := 0) (hi := 4) hx hb (hml.trans hl.1.symm) hts hown mw_5_205 ⟨mw_3_239, mw_3_238, mw_1_20⟩ hK hLA hB hS mb_20 tb_20 ai_89 mb_21 tb_21 ai_58 (fun _ => ⟨show (0 : Int) ≤ 0 by decide, show (4 : Int) ≤ 4 by decide⟩) (fun _ => rfl) (by decide) (by decide) (by decide) (by decide) (by decide) (by decide) (Nat.le_of_ble_eq_true rfl) (Nat.le_of_ble_eq_true rfl) dX10_copyFrom_78 (fun H locs σ_22 eσ_22 hB hS => ?_)
  refine lv_aload_n hx hb dX10_copyFrom_81 rfl (lv_at hl 0 rfl) ?_
  refine lv_aload_n hx hb dX10_copyFrom_82 rfl (lv_at hl 1 rfl) ?_
  refine t_gi hx hb hts hown hK hB mh1 th1 fi_15_6 rfl mw_2_11 dX10_copyFrom_83 (fun x_23 ex_23 lx_23 ux_23 => ?_)
  refine t_pi hx hb hts hown hK hLA hB hS mh0 th0 fi_10_6 rfl rfl rfl (by omega) (by omega) (Or.inl (by decide)) mw_2_11 dX10_copyFrom_86 (fun H locs σ_24 eσ_24 hB hS => ?_)
  have k_25 : σ_24 h0 6 = x_23 := by rw [eσ_24]; exact up2_same _ _ _ _
  refine lv_aload_n hx hb dX10_copyFrom_89 rfl (lv_at hl 0 rfl) ?_
  refine lv_aload_n hx hb dX10_copyFrom_90 rfl (lv_at hl 1 rfl) ?_
  refine t_gi hx hb hts hown hK hB mh1 th1 fi_15_7 rfl mw_2_14 dX10_copyFrom_91 (fun x_26 ex_26 lx_26 ux_26 => ?_)
  refine t_pi hx hb hts hown hK hLA hB hS mh0 th0 fi_10_7 rfl rfl rfl (i_lo _) (i_hi _) (Or.inl (by decide)) mw_2_14 dX10_copyFrom_94 (fun H locs σ_27 eσ_27 hB hS => ?_)
  have k_28 : σ_27 h0 7 = x_26 := by rw [eσ_27]; exact up2_same _ _ _ _
  refine lv_aload_n hx hb dX10_copyFrom_97 rfl (lv_at hl 0 rfl) ?_
  refine lv_aload_n hx hb dX10_copyFrom_98 rfl (lv_at hl 1 rfl) ?_
  refine t_gi hx hb hts hown hK hB mh1 th1 fi_15_8 rfl mw_2_16 dX10_copyFrom_99 (fun x_29 ex_29 lx_29 ux_29 => ?_)
  refine t_pi hx hb hts hown hK hLA hB hS mh0 th0 fi_10_8 rfl rfl rfl (i_lo _) (i_hi _) (Or.inl (by decide)) mw_2_16 dX10_copyFrom_102 (fun H locs σ_30 eσ_30 hB hS => ?_)
  have k_31 : σ_30 h0 8 = x_29 := by rw [eσ_30]; exact up2_same _ _ _ _
  exact W.vret hx hb hr (fun t ht hW => ⟨⟨(σ_30, ρ_9), rfl, ⟨hB.2.1, hB.2.2, trivial⟩, (show TP D cA L T r σ_30 ρ_9 t.heap from by rw [ht]; exact hB.1)⟩, hS.F ht⟩) hS.2.2 dX10_copyFrom_105
set_option maxHeartbeats 4000000 in
set_option maxRecDepth 100000 in
theorem cy_X10_copyFrom_16_10 (l : Launch) (D : va_G) (cA : Nat → ClassId) (L : List Nat) (T : Nat → Nat) (r : Rg) (hG : GR L T r) (hL : L.Nodup) (σ : Sg) (ρ : Lg) (hW : WT L ry T σ) (sz : Nat) (h0 : Nat) (mh0 : h0 ∈ L) (th0 : T h0 = 16) (h1 : Nat) (mh1 : h1 ∈ L) (th1 : T h1 = 10) : Met l yX10_copyFrom (.code yX10_copyFrom cX10_copyFrom 2 none :: wsA) ({ frames := 3, cells := 0, slots := 0, locals := 142 }) (PR D cA L T r σ ρ sz [.ref h0, .ref h1]) (QV D cA L T r ry [(16, 6), (16, 7), (16, 8), (18, 6), (18, 7), (18, 8), (18, 9), (18, 10), (86, 1000), (87, 1000), (88, 1000), (89, 1000), (95, 1000), (96, 1000), (97, 1000), (98, 1000), (99, 1000), (105, 6), (105, 7), (106, 6), (106, 7), (137, 1000), (138, 1000), (139, 1000), (140, 1000), (141, 1000), (142, 1000), (143, 1000), (144, 1000), (145, 1000), (146, 1000), (147, 1000), (148, 1000)] σ sz (fun σ1 => True)) 0 0 (dm L sz) := by
  refine Met.ofW (cc := cX10_copyFrom) (maxL := 2) (ret := none) (by decide) rfl ?_
  intro p e s m args below meth c s₁ B hml hv
  obtain ⟨rfl, hsz, hP, hK, hN⟩ := hv
  have hx := B.exec
  have hb := B.bytes
  have hr := B.returns
  have hts : ∀ w ∈ wsA, w.before _ s = true := fun w h => atoms_spec (ws := .code yX10_copyFrom cX10_copyFrom 2 none :: wsA) B.pre w (List.mem_cons_of_mem _ h)
  have hown : s.vm.findClass RX10 = some m.cls := findClass_of_methodNamed B.named
  subst hsz
  have hLA : LA (dm L s.heap.size) L := ⟨hL, fun a h => Or.inl h⟩
  have hA : ∀ q : Nat, s.heap.size ≤ q → dm L s.heap.size q := fun q h => Or.inr h
  have hS : va_S (dm L s.heap.size) s.heap s.heap [] := va_S.rf
  have hB : TS D cA L T r ry [(16, 6), (16, 7), (16, 8), (18, 6), (18, 7), (18, 8), (18, 9), (18, 10), (86, 1000), (87, 1000), (88, 1000), (89, 1000), (95, 1000), (96, 1000), (97, 1000), (98, 1000), (99, 1000), (105, 6), (105, 7), (106, 6), (106, 7), (137, 1000), (138, 1000), (139, 1000), (140, 1000), (141, 1000), (142, 1000), (143, 1000), (144, 1000), (145, 1000), (146, 1000), (147, 1000), (148, 1000)] σ σ ρ s.heap := ⟨hP, hW, FR.rf⟩
  have hl := lv_entry ([.ref h0, .ref h1]) (n := 2) (Nat.le_of_ble_eq_true rfl)
  rw [lg_entry_eq]
  generalize (lg_sl ([.ref h0, .ref h1]) ++ List.replicate (2 - (lg_sl ([.ref h0, .ref h1])).length) Slot.unset).toArray = ls at hl ⊢
  have hl : lv_has ls 2 [(0, .ref h0), (1, .ref h1)] := hl
  refine lv_aload_n hx hb dX10_copyFrom_0 rfl (lv_at hl 0 rfl) ?_
  refine t_gr hx hb hts hown hK hG hB mh0 th0 fq_16_0 rfl mw_1_233 dX10_copyFrom_1 (fun b_1 hb_1 mb_1 tb_1 => ?_)
  refine lv_aload_n hx hb dX10_copyFrom_4 rfl (lv_at hl 1 rfl) ?_
  refine t_gr hx hb hts hown hK hG hB mh1 th1 fq_10_0 rfl mw_1_233 dX10_copyFrom_5 (fun b_2 hb_2 mb_2 tb_2 => ?_)
  refine t_cv (va_runV (As := [.ref b_2]) (rest := []) ⟨hx, hb, hml, hown, hts⟩ (cy_X3_copyFrom_18_3 l D cA L T r hG hLA.1 σ ρ hB.2.1 _ b_1 mb_1 tb_1 b_2 mb_2 tb_2) (cV hts mv_X3_copyFrom mw_3_233 rfl rfl ⟨Nat.le_of_ble_eq_true rfl, Nat.le_of_ble_eq_true rfl⟩) (pV hB.1 hK hN mb_1 tb_1 (show shp cA 18 _ _ _ = .inr (3, Fs3 _ _ _) from rfl) rfl) rfl rfl hl.1 rfl (lv_room (Nat.le_of_ble_eq_true rfl)) dX10_copyFrom_8 ⟨Nat.le_of_ble_eq_true rfl, Nat.le_of_ble_eq_true rfl⟩) hLA hA hB hS (by decide) (fun σ_3 ρ_4 H locs hB fσ_3 pσ_3 hS => ?_)
  refine lv_aload_n hx hb dX10_copyFrom_11 rfl (lv_at hl 0 rfl) ?_
  refine t_gr hx hb hts hown hK hG hB mh0 th0 fq_16_1 rfl mw_1_237 dX10_copyFrom_12 (fun b_6 hb_6 mb_6 tb_6 => ?_)
  refine lv_aload_n hx hb dX10_copyFrom_15 rfl (lv_at hl 1 rfl) ?_
  refine t_gr hx hb hts hown hK hG hB mh1 th1 fq_10_1 rfl mw_1_237 dX10_copyFrom_16 (fun b_7 hb_7 mb_7 tb_7 => ?_)
  refine t_cv (va_runV (As := [.ref b_7]) (rest := []) ⟨hx, hb, hml, hown, hts⟩ (cy_X8_copyFrom_105_8 l D cA L T r hG hLA.1 σ_3 ρ_4 hB.2.1 _ b_6 mb_6 tb_6 b_7 mb_7 tb_7) (cV hts mv_X8_copyFrom mw_4_5 rfl rfl ⟨Nat.le_of_ble_eq_true rfl, Nat.le_of_ble_eq_true rfl⟩) (pV hB.1 hK hN mb_6 tb_6 (show shp cA 105 _ _ _ = .inr (8, Fs8 _ _ _) from rfl) rfl) rfl rfl hl.1 rfl (lv_room (Nat.le_of_ble_eq_true rfl)) dX10_copyFrom_19 ⟨Nat.le_of_ble_eq_true rfl, Nat.le_of_ble_eq_true rfl⟩) hLA hA hB hS (by decide) (fun σ_8 ρ_9 H locs hB fσ_8 pσ_8 hS => ?_)
  refine lv_aload_n hx hb dX10_copyFrom_22 rfl (lv_at hl 1 rfl) ?_
  refine t_gr hx hb hts hown hK hG hB mh1 th1 fq_10_2 rfl mw_2_0 dX10_copyFrom_23 (fun b_11 hb_11 mb_11 tb_11 => ?_)
  refine lv_iconst (v := 0) hx hb dX10_copyFrom_26 (by decide) ?_
  refine lv_aload_n hx hb dX10_copyFrom_27 rfl (lv_at hl 0 rfl) ?_
  refine t_gr hx hb hts hown hK hG hB mh0 th0 fq_16_2 rfl mw_2_0 dX10_copyFrom_28 (fun b_12 hb_12 mb_12 tb_12 => ?_)
  refine lv_iconst (v := 0) hx hb dX10_copyFrom_31 (by decide) ?_
  refine lv_iconst (v := 5) hx hb dX10_copyFrom_32 (by decide) ?_
  refine t_cp (lo := 0) (hi := 9) hx hb (hml.trans hl.1.symm) hts hown mw_5_205 ⟨mw_3_239, mw_3_238, mw_1_20⟩ hK hLA hB hS mb_11 tb_11 ai_55 mb_12 tb_12 ai_86 (fun _ => ⟨show (0 : Int) ≤ 0 by decide, show (9 : Int) ≤ 9 by decide⟩) (fun _ => rfl) (by decide) (by decide) (by decide) (by decide) (by decide) (by decide) (Nat.le_of_ble_eq_true rfl) (Nat.le_of_ble_eq_true rfl) dX10_copyFrom_33 (fun H locs σ_13 eσ_13 hB hS => ?_)
  refine lv_aload_n hx hb dX10_copyFrom_36 rfl (lv_at hl 1 rfl) ?_
  refine t_gr hx hb hts hown hK hG hB mh1 th1 fq_10_3 rfl mw_2_2 dX10_copyFrom_37 (fun b_14 hb_14 mb_14 tb_14 => ?_)
  refine lv_iconst (v := 0) hx hb dX10_copyFrom_40 (by decide) ?_
  refine lv_aload_n hx hb dX10_copyFrom_41 rfl (lv_at hl 0 rfl) ?_
  refine t_gr hx hb hts hown hK hG hB mh0 th0 fq_16_3 rfl mw_2_2 dX10_copyFrom_42 (fun b_15 hb_15 mb_15 tb_15 => ?_)
  refine lv_iconst (v := 0) hx hb dX10_copyFrom_45 (by decide) ?_
  refine lv_bipush (v := 10) hx hb dX10_copyFrom_46 (by decide) ?_
  refine t_cp (lo := 0) (hi := 60) hx hb (hml.trans hl.1.symm) hts hown mw_5_205 ⟨mw_3_239, mw_3_238, mw_1_20⟩ hK hLA hB hS mb_14 tb_14 ai_56 mb_15 tb_15 ai_87 (fun _ => ⟨show (0 : Int) ≤ 0 by decide, show (60 : Int) ≤ 60 by decide⟩) (fun _ => rfl) (by decide) (by decide) (by decide) (by decide) (by decide) (by decide) (Nat.le_of_ble_eq_true rfl) (Nat.le_of_ble_eq_true rfl) dX10_copyFrom_48 (fun H locs σ_16 eσ_16 hB hS => ?_)
  refine lv_aload_n hx hb dX10_copyFrom_51 rfl (lv_at hl 1 rfl) ?_
  refine t_gr hx hb hts hown hK hG hB mh1 th1 fq_10_4 rfl mw_2_5 dX10_copyFrom_52 (fun b_17 hb_17 mb_17 tb_17 => ?_)
  refine lv_iconst (v := 0) hx hb dX10_copyFrom_55 (by decide) ?_
  refine lv_aload_n hx hb dX10_copyFrom_56 rfl (lv_at hl 0 rfl) ?_
  refine t_gr hx hb hts hown hK hG hB mh0 th0 fq_16_4 rfl mw_2_5 dX10_copyFrom_57 (fun b_18 hb_18 mb_18 tb_18 => ?_)
  refine lv_iconst (v := 0) hx hb dX10_copyFrom_60 (by decide) ?_
  refine lv_bipush (v := 10) hx hb dX10_copyFrom_61 (by decide) ?_
  refine t_cp (lo := 0) (hi := 7) hx hb (hml.trans hl.1.symm) hts hown mw_5_205 ⟨mw_3_239, mw_3_238, mw_1_20⟩ hK hLA hB hS mb_17 tb_17 ai_57 mb_18 tb_18 ai_88 (fun _ => ⟨show (0 : Int) ≤ 0 by decide, show (7 : Int) ≤ 7 by decide⟩) (fun _ => rfl) (by decide) (by decide) (by decide) (by decide) (by decide) (by decide) (Nat.le_of_ble_eq_true rfl) (Nat.le_of_ble_eq_true rfl) dX10_copyFrom_63 (fun H locs σ_19 eσ_19 hB hS => ?_)
  refine lv_aload_n hx hb dX10_copyFrom_66 rfl (lv_at hl 1 rfl) ?_
  refine t_gr hx hb hts hown hK hG hB mh1 th1 fq_10_5 rfl mw_2_8 dX10_copyFrom_67 (fun b_20 hb_20 mb_20 tb_20 => ?_)
  refine lv_iconst (v := 0) hx hb dX10_copyFrom_70 (by decide) ?_
  refine lv_aload_n hx hb dX10_copyFrom_71 rfl (lv_at hl 0 rfl) ?_
  refine t_gr hx hb hts hown hK hG hB mh0 th0 fq_16_5 rfl mw_2_8 dX10_copyFrom_72 (fun b_21 hb_21 mb_21 tb_21 => ?_)
  refine lv_iconst (v := 0) hx hb dX10_copyFrom_75 (by decide) ?_
  refine lv_bipush (v := 10) hx hb dX10_copyFrom_76 (by decide) ?_
  refine t_cp (lo := 0) (hi := 4) hx hb (hml.trans hl.1.symm) hts hown mw_5_205 ⟨mw_3_239, mw_3_238, mw_1_20⟩ hK hLA hB hS mb_20 tb_20 ai_58 mb_21 tb_21 ai_89 (fun _ => ⟨show (0 : Int) ≤ 0 by decide, show (4 : Int) ≤ 4 by decide⟩) (fun _ => rfl) (by decide) (by decide) (by decide) (by decide) (by decide) (by decide) (Nat.le_of_ble_eq_true rfl) (Nat.le_of_ble_eq_true rfl) dX10_copyFrom_78 (fun H locs σ_22 eσ_22 hB hS => ?_)
  refine lv_aload_n hx hb dX10_copyFrom_81 rfl (lv_at hl 0 rfl) ?_
  refine lv_aload_n hx hb dX10_copyFrom_82 rfl (lv_at hl 1 rfl) ?_
  refine t_gi hx hb hts hown hK hB mh1 th1 fi_10_6 rfl mw_2_11 dX10_copyFrom_83 (fun x_23 ex_23 lx_23 ux_23 => ?_)
  refine t_pi hx hb hts hown hK hLA hB hS mh0 th0 fi_16_6 rfl rfl rfl (by omega) (by omega) (Or.inl (by decide)) mw_2_11 dX10_copyFrom_86 (fun H locs σ_24 eσ_24 hB hS => ?_)
  have k_25 : σ_24 h0 6 = x_23 := by rw [eσ_24]; exact up2_same _ _ _ _
  refine lv_aload_n hx hb dX10_copyFrom_89 rfl (lv_at hl 0 rfl) ?_
  refine lv_aload_n hx hb dX10_copyFrom_90 rfl (lv_at hl 1 rfl) ?_
  refine t_gi hx hb hts hown hK hB mh1 th1 fi_10_7 rfl mw_2_14 dX10_copyFrom_91 (fun x_26 ex_26 lx_26 ux_26 => ?_)
  refine t_pi hx hb hts hown hK hLA hB hS mh0 th0 fi_16_7 rfl rfl rfl (i_lo _) (i_hi _) (Or.inl (by decide)) mw_2_14 dX10_copyFrom_94 (fun H locs σ_27 eσ_27 hB hS => ?_)
  have k_28 : σ_27 h0 7 = x_26 := by rw [eσ_27]; exact up2_same _ _ _ _
  refine lv_aload_n hx hb dX10_copyFrom_97 rfl (lv_at hl 0 rfl) ?_
  refine lv_aload_n hx hb dX10_copyFrom_98 rfl (lv_at hl 1 rfl) ?_
  refine t_gi hx hb hts hown hK hB mh1 th1 fi_10_8 rfl mw_2_16 dX10_copyFrom_99 (fun x_29 ex_29 lx_29 ux_29 => ?_)
  refine t_pi hx hb hts hown hK hLA hB hS mh0 th0 fi_16_8 rfl rfl rfl (i_lo _) (i_hi _) (Or.inl (by decide)) mw_2_16 dX10_copyFrom_102 (fun H locs σ_30 eσ_30 hB hS => ?_)
  have k_31 : σ_30 h0 8 = x_29 := by rw [eσ_30]; exact up2_same _ _ _ _
  exact W.vret hx hb hr (fun t ht hW => ⟨⟨(σ_30, ρ_9), rfl, ⟨hB.2.1, hB.2.2, trivial⟩, (show TP D cA L T r σ_30 ρ_9 t.heap from by rw [ht]; exact hB.1)⟩, hS.F ht⟩) hS.2.2 dX10_copyFrom_105
set_option maxHeartbeats 4000000 in
set_option maxRecDepth 100000 in
theorem cy_X10_copyFrom_10_16 (l : Launch) (D : va_G) (cA : Nat → ClassId) (L : List Nat) (T : Nat → Nat) (r : Rg) (hG : GR L T r) (hL : L.Nodup) (σ : Sg) (ρ : Lg) (hW : WT L ry T σ) (sz : Nat) (h0 : Nat) (mh0 : h0 ∈ L) (th0 : T h0 = 10) (h1 : Nat) (mh1 : h1 ∈ L) (th1 : T h1 = 16) : Met l yX10_copyFrom (.code yX10_copyFrom cX10_copyFrom 2 none :: wsA) ({ frames := 3, cells := 0, slots := 0, locals := 142 }) (PR D cA L T r σ ρ sz [.ref h0, .ref h1]) (QV D cA L T r ry [(3, 6), (3, 7), (3, 8), (3, 9), (3, 10), (8, 6), (8, 7), (10, 6), (10, 7), (10, 8), (33, 1000), (34, 1000), (35, 1000), (36, 1000), (37, 1000), (45, 1000), (46, 1000), (47, 1000), (48, 1000), (49, 1000), (50, 1000), (55, 1000), (56, 1000), (57, 1000), (58, 1000), (100, 6), (100, 7), (107, 1000), (108, 1000), (109, 1000), (110, 1000), (111, 1000), (112, 1000)] σ sz (fun σ1 => True)) 0 0 (dm L sz) := by
  refine Met.ofW (cc := cX10_copyFrom) (maxL := 2) (ret := none) (by decide) rfl ?_
  intro p e s m args below meth c s₁ B hml hv
  obtain ⟨rfl, hsz, hP, hK, hN⟩ := hv
  have hx := B.exec
  have hb := B.bytes
  have hr := B.returns
  have hts : ∀ w ∈ wsA, w.before _ s = true := fun w h => atoms_spec (ws := .code yX10_copyFrom cX10_copyFrom 2 none :: wsA) B.pre w (List.mem_cons_of_mem _ h)
  have hown : s.vm.findClass RX10 = some m.cls := findClass_of_methodNamed B.named
  subst hsz
  have hLA : LA (dm L s.heap.size) L := ⟨hL, fun a h => Or.inl h⟩
  have hA : ∀ q : Nat, s.heap.size ≤ q → dm L s.heap.size q := fun q h => Or.inr h
  have hS : va_S (dm L s.heap.size) s.heap s.heap [] := va_S.rf
  have hB : TS D cA L T r ry [(3, 6), (3, 7), (3, 8), (3, 9), (3, 10), (8, 6), (8, 7), (10, 6), (10, 7), (10, 8), (33, 1000), (34, 1000), (35, 1000), (36, 1000), (37, 1000), (45, 1000), (46, 1000), (47, 1000), (48, 1000), (49, 1000), (50, 1000), (55, 1000), (56, 1000), (57, 1000), (58, 1000), (100, 6), (100, 7), (107, 1000), (108, 1000), (109, 1000), (110, 1000), (111, 1000), (112, 1000)] σ σ ρ s.heap := ⟨hP, hW, FR.rf⟩
  have hl := lv_entry ([.ref h0, .ref h1]) (n := 2) (Nat.le_of_ble_eq_true rfl)
  rw [lg_entry_eq]
  generalize (lg_sl ([.ref h0, .ref h1]) ++ List.replicate (2 - (lg_sl ([.ref h0, .ref h1])).length) Slot.unset).toArray = ls at hl ⊢
  have hl : lv_has ls 2 [(0, .ref h0), (1, .ref h1)] := hl
  refine lv_aload_n hx hb dX10_copyFrom_0 rfl (lv_at hl 0 rfl) ?_
  refine t_gr hx hb hts hown hK hG hB mh0 th0 fq_10_0 rfl mw_1_233 dX10_copyFrom_1 (fun b_1 hb_1 mb_1 tb_1 => ?_)
  refine lv_aload_n hx hb dX10_copyFrom_4 rfl (lv_at hl 1 rfl) ?_
  refine t_gr hx hb hts hown hK hG hB mh1 th1 fq_16_0 rfl mw_1_233 dX10_copyFrom_5 (fun b_2 hb_2 mb_2 tb_2 => ?_)
  refine t_cv (va_runV (As := [.ref b_2]) (rest := []) ⟨hx, hb, hml, hown, hts⟩ (cy_X3_copyFrom_3_18 l D cA L T r hG hLA.1 σ ρ hB.2.1 _ b_1 mb_1 tb_1 b_2 mb_2 tb_2) (cV hts mv_X3_copyFrom mw_3_233 rfl rfl ⟨Nat.le_of_ble_eq_true rfl, Nat.le_of_ble_eq_true rfl⟩) (pV hB.1 hK hN mb_1 tb_1 (show shp cA 3 _ _ _ = .inr (3, Fs3 _ _ _) from rfl) rfl) rfl rfl hl.1 rfl (lv_room (Nat.le_of_ble_eq_true rfl)) dX10_copyFrom_8 ⟨Nat.le_of_ble_eq_true rfl, Nat.le_of_ble_eq_true rfl⟩) hLA hA hB hS (by decide) (fun σ_3 ρ_4 H locs hB fσ_3 pσ_3 hS => ?_)
  refine lv_aload_n hx hb dX10_copyFrom_11 rfl (lv_at hl 0 rfl) ?_
  refine t_gr hx hb hts hown hK hG hB mh0 th0 fq_10_1 rfl mw_1_237 dX10_copyFrom_12 (fun b_6 hb_6 mb_6 tb_6 => ?_)
  refine lv_aload_n hx hb dX10_copyFrom_15 rfl (lv_at hl 1 rfl) ?_
  refine t_gr hx hb hts hown hK hG hB mh1 th1 fq_16_1 rfl mw_1_237 dX10_copyFrom_16 (fun b_7 hb_7 mb_7 tb_7 => ?_)
  refine t_cv (va_runV (As := [.ref b_7]) (rest := []) ⟨hx, hb, hml, hown, hts⟩ (cy_X8_copyFrom_8_105 l D cA L T r hG hLA.1 σ_3 ρ_4 hB.2.1 _ b_6 mb_6 tb_6 b_7 mb_7 tb_7) (cV hts mv_X8_copyFrom mw_4_5 rfl rfl ⟨Nat.le_of_ble_eq_true rfl, Nat.le_of_ble_eq_true rfl⟩) (pV hB.1 hK hN mb_6 tb_6 (show shp cA 8 _ _ _ = .inr (8, Fs8 _ _ _) from rfl) rfl) rfl rfl hl.1 rfl (lv_room (Nat.le_of_ble_eq_true rfl)) dX10_copyFrom_19 ⟨Nat.le_of_ble_eq_true rfl, Nat.le_of_ble_eq_true rfl⟩) hLA hA hB hS (by decide) (fun σ_8 ρ_9 H locs hB fσ_8 pσ_8 hS => ?_)
  refine lv_aload_n hx hb dX10_copyFrom_22 rfl (lv_at hl 1 rfl) ?_
  refine t_gr hx hb hts hown hK hG hB mh1 th1 fq_16_2 rfl mw_2_0 dX10_copyFrom_23 (fun b_11 hb_11 mb_11 tb_11 => ?_)
  refine lv_iconst (v := 0) hx hb dX10_copyFrom_26 (by decide) ?_
  refine lv_aload_n hx hb dX10_copyFrom_27 rfl (lv_at hl 0 rfl) ?_
  refine t_gr hx hb hts hown hK hG hB mh0 th0 fq_10_2 rfl mw_2_0 dX10_copyFrom_28 (fun b_12 hb_12 mb_12 tb_12 => ?_)
  refine lv_iconst (v := 0) hx hb dX10_copyFrom_31 (by decide) ?_
  refine lv_iconst (v := 5) hx hb dX10_copyFrom_32 (by decide) ?_
  refine t_cp (lo := 0) (hi := 9) hx hb (hml.trans hl.1.symm) hts hown mw_5_205 ⟨mw_3_239, mw_3_238, mw_1_20⟩ hK hLA hB hS mb_11 tb_11 ai_86 mb_12 tb_12 ai_55 (fun _ => ⟨show (0 : Int) ≤ 0 by decide, show (9 : Int) ≤ 9 by decide⟩) (fun _ => rfl) (by decide) (by decide) (by decide) (by decide) (by decide) (by decide) (Nat.le_of_ble_eq_true rfl) (Nat.le_of_ble_eq_true rfl) dX10_copyFrom_33 (fun H locs σ_13 eσ_13 hB hS => ?_)
  refine lv_aload_n hx hb dX10_copyFrom_36 rfl (lv_at hl 1 rfl) ?_
  refine t_gr hx hb hts hown hK hG hB mh1 th1 fq_16_3 rfl mw_2_2 dX10_copyFrom_37 (fun b_14 hb_14 mb_14 tb_14 => ?_)
  refine lv_iconst (v := 0) hx hb dX10_copyFrom_40 (by decide) ?_
  refine lv_aload_n hx hb dX10_copyFrom_41 rfl (lv_at hl 0 rfl) ?_
  refine t_gr hx hb hts hown hK hG hB mh0 th0 fq_10_3 rfl mw_2_2 dX10_copyFrom_42 (fun b_15 hb_15 mb_15 tb_15 => ?_)
  refine lv_iconst (v := 0) hx hb dX10_copyFrom_45 (by decide) ?_
  refine lv_bipush (v := 10) hx hb dX10_copyFrom_46 (by decide) ?_
  refine t_cp (lo := 0) (hi := 60) hx hb (hml.trans hl.1.symm) hts hown mw_5_205 ⟨mw_3_239, mw_3_238, mw_1_20⟩ hK hLA hB hS mb_14 tb_14 ai_87 mb_15 tb_15 ai_56 (fun _ => ⟨show (0 : Int) ≤ 0 by decide, show (60 : Int) ≤ 60 by decide⟩) (fun _ => rfl) (by decide) (by decide) (by decide) (by decide) (by decide) (by decide) (Nat.le_of_ble_eq_true rfl) (Nat.le_of_ble_eq_true rfl) dX10_copyFrom_48 (fun H locs σ_16 eσ_16 hB hS => ?_)
  refine lv_aload_n hx hb dX10_copyFrom_51 rfl (lv_at hl 1 rfl) ?_
  refine t_gr hx hb hts hown hK hG hB mh1 th1 fq_16_4 rfl mw_2_5 dX10_copyFrom_52 (fun b_17 hb_17 mb_17 tb_17 => ?_)
  refine lv_iconst (v := 0) hx hb dX10_copyFrom_55 (by decide) ?_
  refine lv_aload_n hx hb dX10_copyFrom_56 rfl (lv_at hl 0 rfl) ?_
  refine t_gr hx hb hts hown hK hG hB mh0 th0 fq_10_4 rfl mw_2_5 dX10_copyFrom_57 (fun b_18 hb_18 mb_18 tb_18 => ?_)
  refine lv_iconst (v := 0) hx hb dX10_copyFrom_60 (by decide) ?_
  refine lv_bipush (v := 10) hx hb dX10_copyFrom_61 (by decide) ?_
  refine t_cp (lo := 0) (hi := 7) hx hb (hml.trans hl.1.symm) hts hown mw_5_205 ⟨mw_3_239, mw_3_238, mw_1_20⟩ hK hLA hB hS mb_17 tb_17 ai_88 mb_18 tb_18 ai_57 (fun _ => ⟨show (0 : Int) ≤ 0 by decide, show (7 : Int) ≤ 7 by decide⟩) (fun _ => rfl) (by decide) (by decide) (by decide) (by decide) (by decide) (by decide) (Nat.le_of_ble_eq_true rfl) (Nat.le_of_ble_eq_true rfl) dX10_copyFrom_63 (fun H locs σ_19 eσ_19 hB hS => ?_)
  refine lv_aload_n hx hb dX10_copyFrom_66 rfl (lv_at hl 1 rfl) ?_
  refine t_gr hx hb hts hown hK hG hB mh1 th1 fq_16_5 rfl mw_2_8 dX10_copyFrom_67 (fun b_20 hb_20 mb_20 tb_20 => ?_)
  refine lv_iconst (v := 0) hx hb dX10_copyFrom_70 (by decide) ?_
  refine lv_aload_n hx hb dX10_copyFrom_71 rfl (lv_at hl 0 rfl) ?_
  refine t_gr hx hb hts hown hK hG hB mh0 th0 fq_10_5 rfl mw_2_8 dX10_copyFrom_72 (fun b_21 hb_21 mb_21 tb_21 => ?_)
  refine lv_iconst (v := 0) hx hb dX10_copyFrom_75 (by decide) ?_
  refine lv_bipush (v := 10) hx hb dX10_copyFrom_76 (by decide) ?_
  refine t_cp (lo := 0) (hi := 4) hx hb (hml.trans hl.1.symm) hts hown mw_5_205 ⟨mw_3_239, mw_3_238, mw_1_20⟩ hK hLA hB hS mb_20 tb_20 ai_89 mb_21 tb_21 ai_58 (fun _ => ⟨show (0 : Int) ≤ 0 by decide, show (4 : Int) ≤ 4 by decide⟩) (fun _ => rfl) (by decide) (by decide) (by decide) (by decide) (by decide) (by decide) (Nat.le_of_ble_eq_true rfl) (Nat.le_of_ble_eq_true rfl) dX10_copyFrom_78 (fun H locs σ_22 eσ_22 hB hS => ?_)
  refine lv_aload_n hx hb dX10_copyFrom_81 rfl (lv_at hl 0 rfl) ?_
  refine lv_aload_n hx hb dX10_copyFrom_82 rfl (lv_at hl 1 rfl) ?_
  refine t_gi hx hb hts hown hK hB mh1 th1 fi_16_6 rfl mw_2_11 dX10_copyFrom_83 (fun x_23 ex_23 lx_23 ux_23 => ?_)
  refine t_pi hx hb hts hown hK hLA hB hS mh0 th0 fi_10_6 rfl rfl rfl (by omega) (by omega) (Or.inl (by decide)) mw_2_11 dX10_copyFrom_86 (fun H locs σ_24 eσ_24 hB hS => ?_)
  have k_25 : σ_24 h0 6 = x_23 := by rw [eσ_24]; exact up2_same _ _ _ _
  refine lv_aload_n hx hb dX10_copyFrom_89 rfl (lv_at hl 0 rfl) ?_
  refine lv_aload_n hx hb dX10_copyFrom_90 rfl (lv_at hl 1 rfl) ?_
  refine t_gi hx hb hts hown hK hB mh1 th1 fi_16_7 rfl mw_2_14 dX10_copyFrom_91 (fun x_26 ex_26 lx_26 ux_26 => ?_)
  refine t_pi hx hb hts hown hK hLA hB hS mh0 th0 fi_10_7 rfl rfl rfl (i_lo _) (i_hi _) (Or.inl (by decide)) mw_2_14 dX10_copyFrom_94 (fun H locs σ_27 eσ_27 hB hS => ?_)
  have k_28 : σ_27 h0 7 = x_26 := by rw [eσ_27]; exact up2_same _ _ _ _
  refine lv_aload_n hx hb dX10_copyFrom_97 rfl (lv_at hl 0 rfl) ?_
  refine lv_aload_n hx hb dX10_copyFrom_98 rfl (lv_at hl 1 rfl) ?_
  refine t_gi hx hb hts hown hK hB mh1 th1 fi_16_8 rfl mw_2_16 dX10_copyFrom_99 (fun x_29 ex_29 lx_29 ux_29 => ?_)
  refine t_pi hx hb hts hown hK hLA hB hS mh0 th0 fi_10_8 rfl rfl rfl (i_lo _) (i_hi _) (Or.inl (by decide)) mw_2_16 dX10_copyFrom_102 (fun H locs σ_30 eσ_30 hB hS => ?_)
  have k_31 : σ_30 h0 8 = x_29 := by rw [eσ_30]; exact up2_same _ _ _ _
  exact W.vret hx hb hr (fun t ht hW => ⟨⟨(σ_30, ρ_9), rfl, ⟨hB.2.1, hB.2.2, trivial⟩, (show TP D cA L T r σ_30 ρ_9 t.heap from by rw [ht]; exact hB.1)⟩, hS.F ht⟩) hS.2.2 dX10_copyFrom_105
theorem mw_2_49 : (.fieldLink RX5 16 "HillBends$History" "size" "I" : Cond) ∈ wsA := wsA_t (List.mem_append_right _ (List.mem_append_left _ (List.mem_of_getElem? (l := tables_1_2) (i := 49) rfl))) rfl
theorem dX5_clear_0 : decode cX5_clear 0 = .ok (.aload_n 0, 1) := by decide +kernel
theorem dX5_clear_1 : decode cX5_clear 1 = .ok (.iconst 0, 1) := by decide +kernel
theorem dX5_clear_2 : decode cX5_clear 2 = .ok (.putfield 16, 3) := by decide +kernel
theorem dX5_clear_5 : decode cX5_clear 5 = .ok (.return_, 1) := by decide +kernel
set_option maxHeartbeats 4000000 in
set_option maxRecDepth 100000 in
theorem cy_X5_clear (l : Launch) (D : va_G) (cA : Nat → ClassId) (L : List Nat) (T : Nat → Nat) (r : Rg) (hG : GR L T r) (hL : L.Nodup) (σ : Sg) (ρ : Lg) (hW : WT L ry T σ) (sz : Nat) (h0 : Nat) (mh0 : h0 ∈ L) (th0 : T h0 = 5) : Met l yX5_clear (.code yX5_clear cX5_clear 1 none :: wsA) ({ frames := 0, cells := 0, slots := 0, locals := 0 }) (PR D cA L T r σ ρ sz [.ref h0]) (QV D cA L T r ry [(5, 1)] σ sz (fun σ1 => True)) 0 0 (dm L sz) := by
  refine Met.ofW (cc := cX5_clear) (maxL := 1) (ret := none) (by decide) rfl ?_
  intro p e s m args below meth c s₁ B hml hv
  obtain ⟨rfl, hsz, hP, hK, hN⟩ := hv
  have hx := B.exec
  have hb := B.bytes
  have hr := B.returns
  have hts : ∀ w ∈ wsA, w.before _ s = true := fun w h => atoms_spec (ws := .code yX5_clear cX5_clear 1 none :: wsA) B.pre w (List.mem_cons_of_mem _ h)
  have hown : s.vm.findClass RX5 = some m.cls := findClass_of_methodNamed B.named
  subst hsz
  have hLA : LA (dm L s.heap.size) L := ⟨hL, fun a h => Or.inl h⟩
  have hA : ∀ q : Nat, s.heap.size ≤ q → dm L s.heap.size q := fun q h => Or.inr h
  have hS : va_S (dm L s.heap.size) s.heap s.heap [] := va_S.rf
  have hB : TS D cA L T r ry [(5, 1)] σ σ ρ s.heap := ⟨hP, hW, FR.rf⟩
  have hl := lv_entry ([.ref h0]) (n := 1) (Nat.le_of_ble_eq_true rfl)
  rw [lg_entry_eq]
  generalize (lg_sl ([.ref h0]) ++ List.replicate (1 - (lg_sl ([.ref h0])).length) Slot.unset).toArray = ls at hl ⊢
  have hl : lv_has ls 1 [(0, .ref h0)] := hl
  refine lv_aload_n hx hb dX5_clear_0 rfl (lv_at hl 0 rfl) ?_
  refine lv_iconst (v := 0) hx hb dX5_clear_1 (by decide) ?_
  refine t_pi hx hb hts hown hK hLA hB hS mh0 th0 fi_5_1 rfl rfl rfl (by decide) (by decide) (Or.inl (by decide)) mw_2_49 dX5_clear_2 (fun H locs σ_1 eσ_1 hB hS => ?_)
  have k_2 : σ_1 h0 1 = 0 := by rw [eσ_1]; exact up2_same _ _ _ _
  exact W.vret hx hb hr (fun t ht hW => ⟨⟨(σ_1, ρ), rfl, ⟨hB.2.1, hB.2.2, trivial⟩, (show TP D cA L T r σ_1 ρ t.heap from by rw [ht]; exact hB.1)⟩, hS.F ht⟩) hS.2.2 dX5_clear_5
theorem mw_2_48 : (.fieldLink RX5 11 "HillBends$History" "scenes" "[LHillBends$Scene;" : Cond) ∈ wsA := wsA_t (List.mem_append_right _ (List.mem_append_left _ (List.mem_of_getElem? (l := tables_1_2) (i := 48) rfl))) rfl
theorem mw_2_51 : (.fieldLink RX5 20 "HillBends$History" "next" "I" : Cond) ∈ wsA := wsA_t (List.mem_append_right _ (List.mem_append_left _ (List.mem_of_getElem? (l := tables_1_2) (i := 51) rfl))) rfl
theorem mw_4_108 : (.methodLink RX5 23 yX8_copyFrom : Cond) ∈ wsA := wsA_t (List.mem_append_right _ (List.mem_append_right _ (List.mem_append_right _ (List.mem_append_left _ (List.mem_of_getElem? (l := tables_1_4) (i := 108) rfl))))) rfl
theorem mw_4_109 : (.methodLink RX5 27 yJ9_min_7cf53 : Cond) ∈ wsA := wsA_t (List.mem_append_right _ (List.mem_append_right _ (List.mem_append_right _ (List.mem_append_left _ (List.mem_of_getElem? (l := tables_1_4) (i := 109) rfl))))) rfl
theorem dX5_keep_0 : decode cX5_keep 0 = .ok (.aload_n 0, 1) := by decide +kernel
theorem dX5_keep_1 : decode cX5_keep 1 = .ok (.getfield 11, 3) := by decide +kernel
theorem dX5_keep_4 : decode cX5_keep 4 = .ok (.aload_n 0, 1) := by decide +kernel
theorem dX5_keep_5 : decode cX5_keep 5 = .ok (.getfield 20, 3) := by decide +kernel
theorem dX5_keep_8 : decode cX5_keep 8 = .ok (.aaload, 1) := by decide +kernel
theorem dX5_keep_9 : decode cX5_keep 9 = .ok (.aload_n 1, 1) := by decide +kernel
theorem dX5_keep_10 : decode cX5_keep 10 = .ok (.invokevirtual 23, 3) := by decide +kernel
theorem dX5_keep_13 : decode cX5_keep 13 = .ok (.aload_n 0, 1) := by decide +kernel
theorem dX5_keep_14 : decode cX5_keep 14 = .ok (.aload_n 0, 1) := by decide +kernel
theorem dX5_keep_15 : decode cX5_keep 15 = .ok (.getfield 20, 3) := by decide +kernel
theorem dX5_keep_18 : decode cX5_keep 18 = .ok (.iconst 1, 1) := by decide +kernel
theorem dX5_keep_19 : decode cX5_keep 19 = .ok (.iadd, 1) := by decide +kernel
theorem dX5_keep_20 : decode cX5_keep 20 = .ok (.bipush 20, 2) := by decide +kernel
theorem dX5_keep_22 : decode cX5_keep 22 = .ok (.if_icmp .ge 12, 3) := by decide +kernel
theorem dX5_keep_34 : decode cX5_keep 34 = .ok (.iconst 0, 1) := by decide +kernel
theorem dX5_keep_35 : decode cX5_keep 35 = .ok (.putfield 20, 3) := by decide +kernel
theorem dX5_keep_38 : decode cX5_keep 38 = .ok (.aload_n 0, 1) := by decide +kernel
theorem dX5_keep_39 : decode cX5_keep 39 = .ok (.bipush 20, 2) := by decide +kernel
theorem dX5_keep_41 : decode cX5_keep 41 = .ok (.aload_n 0, 1) := by decide +kernel
theorem dX5_keep_42 : decode cX5_keep 42 = .ok (.getfield 16, 3) := by decide +kernel
theorem dX5_keep_45 : decode cX5_keep 45 = .ok (.iconst 1, 1) := by decide +kernel
theorem dX5_keep_46 : decode cX5_keep 46 = .ok (.iadd, 1) := by decide +kernel
theorem dX5_keep_47 : decode cX5_keep 47 = .ok (.invokestatic 27, 3) := by decide +kernel
theorem dX5_keep_50 : decode cX5_keep 50 = .ok (.putfield 16, 3) := by decide +kernel
theorem dX5_keep_53 : decode cX5_keep 53 = .ok (.return_, 1) := by decide +kernel
theorem dX5_keep_25 : decode cX5_keep 25 = .ok (.aload_n 0, 1) := by decide +kernel
theorem dX5_keep_26 : decode cX5_keep 26 = .ok (.getfield 20, 3) := by decide +kernel
theorem dX5_keep_29 : decode cX5_keep 29 = .ok (.iconst 1, 1) := by decide +kernel
theorem dX5_keep_30 : decode cX5_keep 30 = .ok (.iadd, 1) := by decide +kernel
theorem dX5_keep_31 : decode cX5_keep 31 = .ok (.goto 4, 3) := by decide +kernel
set_option maxHeartbeats 4000000 in
set_option maxRecDepth 100000 in
theorem cy_X5_keep (l : Launch) (D : va_G) (cA : Nat → ClassId) (L : List Nat) (T : Nat → Nat) (r : Rg) (hG : GR L T r) (hL : L.Nodup) (σ : Sg) (ρ : Lg) (hW : WT L ry T σ) (sz : Nat) (h0 : Nat) (mh0 : h0 ∈ L) (th0 : T h0 = 5) (h1 : Nat) (mh1 : h1 ∈ L) (th1 : T h1 = 8) : Met l yX5_keep (.code yX5_keep cX5_keep 2 none :: wsA) ({ frames := 2, cells := 0, slots := 0, locals := 121 }) (PR D cA L T r σ ρ sz [.ref h0, .ref h1]) (QV D cA L T r ry [(5, 1), (5, 2), (102, 6), (102, 7), (119, 1000), (120, 1000), (121, 1000), (122, 1000), (123, 1000), (124, 1000)] σ sz (fun σ1 => True)) 0 0 (dm L sz) := by
  refine Met.ofW (cc := cX5_keep) (maxL := 2) (ret := none) (by decide) rfl ?_
  intro p e s m args below meth c s₁ B hml hv
  obtain ⟨rfl, hsz, hP, hK, hN⟩ := hv
  have hx := B.exec
  have hb := B.bytes
  have hr := B.returns
  have hts : ∀ w ∈ wsA, w.before _ s = true := fun w h => atoms_spec (ws := .code yX5_keep cX5_keep 2 none :: wsA) B.pre w (List.mem_cons_of_mem _ h)
  have hown : s.vm.findClass RX5 = some m.cls := findClass_of_methodNamed B.named
  subst hsz
  have hLA : LA (dm L s.heap.size) L := ⟨hL, fun a h => Or.inl h⟩
  have hA : ∀ q : Nat, s.heap.size ≤ q → dm L s.heap.size q := fun q h => Or.inr h
  have hS : va_S (dm L s.heap.size) s.heap s.heap [] := va_S.rf
  have hB : TS D cA L T r ry [(5, 1), (5, 2), (102, 6), (102, 7), (119, 1000), (120, 1000), (121, 1000), (122, 1000), (123, 1000), (124, 1000)] σ σ ρ s.heap := ⟨hP, hW, FR.rf⟩
  have hl := lv_entry ([.ref h0, .ref h1]) (n := 2) (Nat.le_of_ble_eq_true rfl)
  rw [lg_entry_eq]
  generalize (lg_sl ([.ref h0, .ref h1]) ++ List.replicate (2 - (lg_sl ([.ref h0, .ref h1])).length) Slot.unset).toArray = ls at hl ⊢
  have hl : lv_has ls 2 [(0, .ref h0), (1, .ref h1)] := hl
  refine lv_aload_n hx hb dX5_keep_0 rfl (lv_at hl 0 rfl) ?_
  refine t_gr hx hb hts hown hK hG hB mh0 th0 fq_5_0 rfl mw_2_48 dX5_keep_1 (fun b_1 hb_1 mb_1 tb_1 => ?_)
  refine lv_aload_n hx hb dX5_keep_4 rfl (lv_at hl 0 rfl) ?_
  refine t_gi hx hb hts hown hK hB mh0 th0 fi_5_2 rfl mw_2_51 dX5_keep_5 (fun x_2 ex_2 lx_2 ux_2 => ?_)
  refine t_aq hx hb hK hG hB mb_1 tb_1 aq_38 rfl (i_in (by omega) (by omega)) dX5_keep_8 (fun b_3 hb_3 mb_3 tb_3 => ?_)
  refine lv_aload_n hx hb dX5_keep_9 rfl (lv_at hl 1 rfl) ?_
  refine t_cv (va_runV (As := [.ref h1]) (rest := []) ⟨hx, hb, hml, hown, hts⟩ (cy_X8_copyFrom_102_8 l D cA L T r hG hLA.1 σ ρ hB.2.1 _ b_3 mb_3 tb_3 h1 mh1 th1) (cV hts mv_X8_copyFrom mw_4_108 rfl rfl ⟨Nat.le_of_ble_eq_true rfl, Nat.le_of_ble_eq_true rfl⟩) (pV hB.1 hK hN mb_3 tb_3 (show shp cA 102 _ _ _ = .inr (8, Fs8 _ _ _) from rfl) rfl) rfl rfl hl.1 rfl (lv_room (Nat.le_of_ble_eq_true rfl)) dX5_keep_10 ⟨Nat.le_of_ble_eq_true rfl, Nat.le_of_ble_eq_true rfl⟩) hLA hA hB hS (by decide) (fun σ_4 ρ_5 H locs hB fσ_4 pσ_4 hS => ?_)
  refine lv_aload_n hx hb dX5_keep_13 rfl (lv_at hl 0 rfl) ?_
  refine lv_aload_n hx hb dX5_keep_14 rfl (lv_at hl 0 rfl) ?_
  have k_7 : σ_4 h0 2 = x_2 := (FR.at fσ_4 th0 (by decide)).trans ex_2.symm
  refine t_gv hx hb hts hown hK hB mh0 th0 fi_5_2 k_7 mw_2_51 dX5_keep_15 ?_
  refine lv_iconst (v := 1) hx hb dX5_keep_18 (by decide) ?_
  refine lv_iadd hx hb dX5_keep_19 ?_
  refine lv_topi (fun x_8 ex_8 => ?_)
  have vx_8 := b_add (rfl : x_2.toInt = _) (by decide : (1 : Int32).toInt = 1) ex_8 (by omega) (by omega)
  refine lv_bipush (v := 20) hx hb dX5_keep_20 (by decide) ?_
  refine lv_icmp_ge (tgt := 34) hx hb dX5_keep_22 (by decide) (fun c_9 => ?_) (fun c_9 => ?_)
  · skip
    have uc_9 := i_ge (n := 20) (by decide) c_9
    refine lv_iconst (v := 0) hx hb dX5_keep_34 (by decide) ?_
    refine t_pi hx hb hts hown hK hLA hB hS mh0 th0 fi_5_2 rfl rfl rfl (by decide) (by decide) (Or.inl (by decide)) mw_2_51 dX5_keep_35 (fun H locs σ_10 eσ_10 hB hS => ?_)
    have k_11 : σ_10 h0 2 = 0 := by rw [eσ_10]; exact up2_same _ _ _ _
    refine lv_aload_n hx hb dX5_keep_38 rfl (lv_at hl 0 rfl) ?_
    refine lv_bipush (v := 20) hx hb dX5_keep_39 (by decide) ?_
    refine lv_aload_n hx hb dX5_keep_41 rfl (lv_at hl 0 rfl) ?_
    refine t_gi hx hb hts hown hK hB mh0 th0 fi_5_1 rfl mw_2_49 dX5_keep_42 (fun x_12 ex_12 lx_12 ux_12 => ?_)
    refine lv_iconst (v := 1) hx hb dX5_keep_45 (by decide) ?_
    refine lv_iadd hx hb dX5_keep_46 ?_
    refine lv_topi (fun x_13 ex_13 => ?_)
    have vx_13 := b_add (rfl : x_12.toInt = _) (by decide : (1 : Int32).toInt = 1) ex_13 (by omega) (by omega)
    refine va_mmin hx hb (hml.trans hl.1.symm) hown (hts _ mw_4_109) (hts _ mw_3_123) (hts _ mw_1_18) (hts _ mw_3_124) (Nat.le_of_ble_eq_true rfl) (Nat.le_of_ble_eq_true rfl) (Nat.zero_le _) (Nat.zero_le _) dX5_keep_47 ?_
    refine lv_topi (fun x_14 ex_14 => ?_)
    obtain ⟨lx_14, mx_14, ux_14⟩ := m_min (by decide : (20 : Int32).toInt = 20) (rfl : x_13.toInt = _) ex_14
    refine t_pi hx hb hts hown hK hLA hB hS mh0 th0 fi_5_1 rfl rfl rfl (by omega) (by omega) (Or.inl (by decide)) mw_2_49 dX5_keep_50 (fun H locs σ_15 eσ_15 hB hS => ?_)
    have k_16 : σ_15 h0 1 = x_14 := by rw [eσ_15]; exact up2_same _ _ _ _
    exact W.vret hx hb hr (fun t ht hW => ⟨⟨(σ_15, ρ_5), rfl, ⟨hB.2.1, hB.2.2, trivial⟩, (show TP D cA L T r σ_15 ρ_5 t.heap from by rw [ht]; exact hB.1)⟩, hS.F ht⟩) hS.2.2 dX5_keep_53
  · skip
    have uc_9 := i_nge (n := 20) (by decide) c_9
    refine lv_aload_n hx hb dX5_keep_25 rfl (lv_at hl 0 rfl) ?_
    refine t_gv hx hb hts hown hK hB mh0 th0 fi_5_2 k_7 mw_2_51 dX5_keep_26 ?_
    refine lv_iconst (v := 1) hx hb dX5_keep_29 (by decide) ?_
    refine lv_iadd hx hb dX5_keep_30 ?_
    refine lv_topi (fun x_17 ex_17 => ?_)
    have vx_17 := b_add (rfl : x_2.toInt = _) (by decide : (1 : Int32).toInt = 1) ex_17 (by omega) (by omega)
    refine lv_goto (tgt := 35) hx hb dX5_keep_31 (by decide) ?_
    refine t_pi hx hb hts hown hK hLA hB hS mh0 th0 fi_5_2 rfl rfl rfl (by omega) (by omega) (Or.inl (by decide)) mw_2_51 dX5_keep_35 (fun H locs σ_18 eσ_18 hB hS => ?_)
    have k_19 : σ_18 h0 2 = x_17 := by rw [eσ_18]; exact up2_same _ _ _ _
    refine lv_aload_n hx hb dX5_keep_38 rfl (lv_at hl 0 rfl) ?_
    refine lv_bipush (v := 20) hx hb dX5_keep_39 (by decide) ?_
    refine lv_aload_n hx hb dX5_keep_41 rfl (lv_at hl 0 rfl) ?_
    refine t_gi hx hb hts hown hK hB mh0 th0 fi_5_1 rfl mw_2_49 dX5_keep_42 (fun x_20 ex_20 lx_20 ux_20 => ?_)
    refine lv_iconst (v := 1) hx hb dX5_keep_45 (by decide) ?_
    refine lv_iadd hx hb dX5_keep_46 ?_
    refine lv_topi (fun x_21 ex_21 => ?_)
    have vx_21 := b_add (rfl : x_20.toInt = _) (by decide : (1 : Int32).toInt = 1) ex_21 (by omega) (by omega)
    refine va_mmin hx hb (hml.trans hl.1.symm) hown (hts _ mw_4_109) (hts _ mw_3_123) (hts _ mw_1_18) (hts _ mw_3_124) (Nat.le_of_ble_eq_true rfl) (Nat.le_of_ble_eq_true rfl) (Nat.zero_le _) (Nat.zero_le _) dX5_keep_47 ?_
    refine lv_topi (fun x_22 ex_22 => ?_)
    obtain ⟨lx_22, mx_22, ux_22⟩ := m_min (by decide : (20 : Int32).toInt = 20) (rfl : x_21.toInt = _) ex_22
    refine t_pi hx hb hts hown hK hLA hB hS mh0 th0 fi_5_1 rfl rfl rfl (by omega) (by omega) (Or.inl (by decide)) mw_2_49 dX5_keep_50 (fun H locs σ_23 eσ_23 hB hS => ?_)
    have k_24 : σ_23 h0 1 = x_22 := by rw [eσ_23]; exact up2_same _ _ _ _
    exact W.vret hx hb hr (fun t ht hW => ⟨⟨(σ_23, ρ_5), rfl, ⟨hB.2.1, hB.2.2, trivial⟩, (show TP D cA L T r σ_23 ρ_5 t.heap from by rw [ht]; exact hB.1)⟩, hS.F ht⟩) hS.2.2 dX5_keep_53
theorem dX5_restore_0 : decode cX5_restore 0 = .ok (.aload_n 0, 1) := by decide +kernel
theorem dX5_restore_1 : decode cX5_restore 1 = .ok (.getfield 16, 3) := by decide +kernel
theorem dX5_restore_4 : decode cX5_restore 4 = .ok (.ifCond .ne 5, 3) := by decide +kernel
theorem dX5_restore_9 : decode cX5_restore 9 = .ok (.aload_n 0, 1) := by decide +kernel
theorem dX5_restore_10 : decode cX5_restore 10 = .ok (.aload_n 0, 1) := by decide +kernel
theorem dX5_restore_11 : decode cX5_restore 11 = .ok (.getfield 20, 3) := by decide +kernel
theorem dX5_restore_14 : decode cX5_restore 14 = .ok (.ifCond .le 12, 3) := by decide +kernel
theorem dX5_restore_26 : decode cX5_restore 26 = .ok (.bipush 19, 2) := by decide +kernel
theorem dX5_restore_28 : decode cX5_restore 28 = .ok (.putfield 20, 3) := by decide +kernel
theorem dX5_restore_31 : decode cX5_restore 31 = .ok (.aload_n 0, 1) := by decide +kernel
theorem dX5_restore_32 : decode cX5_restore 32 = .ok (.dup, 1) := by decide +kernel
theorem dX5_restore_33 : decode cX5_restore 33 = .ok (.getfield 16, 3) := by decide +kernel
theorem dX5_restore_36 : decode cX5_restore 36 = .ok (.iconst 1, 1) := by decide +kernel
theorem dX5_restore_37 : decode cX5_restore 37 = .ok (.isub, 1) := by decide +kernel
theorem dX5_restore_38 : decode cX5_restore 38 = .ok (.putfield 16, 3) := by decide +kernel
theorem dX5_restore_41 : decode cX5_restore 41 = .ok (.aload_n 1, 1) := by decide +kernel
theorem dX5_restore_42 : decode cX5_restore 42 = .ok (.aload_n 0, 1) := by decide +kernel
theorem dX5_restore_43 : decode cX5_restore 43 = .ok (.getfield 11, 3) := by decide +kernel
theorem dX5_restore_46 : decode cX5_restore 46 = .ok (.aload_n 0, 1) := by decide +kernel
theorem dX5_restore_47 : decode cX5_restore 47 = .ok (.getfield 20, 3) := by decide +kernel
theorem dX5_restore_50 : decode cX5_restore 50 = .ok (.aaload, 1) := by decide +kernel
theorem dX5_restore_51 : decode cX5_restore 51 = .ok (.invokevirtual 23, 3) := by decide +kernel
theorem dX5_restore_54 : decode cX5_restore 54 = .ok (.iconst 1, 1) := by decide +kernel
theorem dX5_restore_55 : decode cX5_restore 55 = .ok (.ireturn, 1) := by decide +kernel
theorem dX5_restore_17 : decode cX5_restore 17 = .ok (.aload_n 0, 1) := by decide +kernel
theorem dX5_restore_18 : decode cX5_restore 18 = .ok (.getfield 20, 3) := by decide +kernel
theorem dX5_restore_21 : decode cX5_restore 21 = .ok (.iconst 1, 1) := by decide +kernel
theorem dX5_restore_22 : decode cX5_restore 22 = .ok (.isub, 1) := by decide +kernel
theorem dX5_restore_23 : decode cX5_restore 23 = .ok (.goto 5, 3) := by decide +kernel
theorem dX5_restore_7 : decode cX5_restore 7 = .ok (.iconst 0, 1) := by decide +kernel
theorem dX5_restore_8 : decode cX5_restore 8 = .ok (.ireturn, 1) := by decide +kernel
set_option maxHeartbeats 4000000 in
set_option maxRecDepth 100000 in
theorem cy_X5_restore (l : Launch) (D : va_G) (cA : Nat → ClassId) (L : List Nat) (T : Nat → Nat) (r : Rg) (hG : GR L T r) (hL : L.Nodup) (σ : Sg) (ρ : Lg) (hW : WT L ry T σ) (sz : Nat) (h0 : Nat) (mh0 : h0 ∈ L) (th0 : T h0 = 5) (h1 : Nat) (mh1 : h1 ∈ L) (th1 : T h1 = 8) : Met l yX5_restore (.code yX5_restore cX5_restore 2 (some .boolean) :: wsA) ({ frames := 2, cells := 0, slots := 0, locals := 121 }) (PR D cA L T r σ ρ sz [.ref h0, .ref h1]) (QI D cA L T r ry [(5, 1), (5, 2), (8, 6), (8, 7), (45, 1000), (46, 1000), (47, 1000), (48, 1000), (49, 1000), (50, 1000)] σ sz (fun x σ1 => (0 ≤ x.toInt ∧ x.toInt ≤ 1))) 0 0 (dm L sz) := by
  refine Met.ofW (cc := cX5_restore) (maxL := 2) (ret := (some .boolean)) (by decide) rfl ?_
  intro p e s m args below meth c s₁ B hml hv
  obtain ⟨rfl, hsz, hP, hK, hN⟩ := hv
  have hx := B.exec
  have hb := B.bytes
  have hr := B.returns
  have hts : ∀ w ∈ wsA, w.before _ s = true := fun w h => atoms_spec (ws := .code yX5_restore cX5_restore 2 (some .boolean) :: wsA) B.pre w (List.mem_cons_of_mem _ h)
  have hown : s.vm.findClass RX5 = some m.cls := findClass_of_methodNamed B.named
  subst hsz
  have hLA : LA (dm L s.heap.size) L := ⟨hL, fun a h => Or.inl h⟩
  have hA : ∀ q : Nat, s.heap.size ≤ q → dm L s.heap.size q := fun q h => Or.inr h
  have hS : va_S (dm L s.heap.size) s.heap s.heap [] := va_S.rf
  have hB : TS D cA L T r ry [(5, 1), (5, 2), (8, 6), (8, 7), (45, 1000), (46, 1000), (47, 1000), (48, 1000), (49, 1000), (50, 1000)] σ σ ρ s.heap := ⟨hP, hW, FR.rf⟩
  have hl := lv_entry ([.ref h0, .ref h1]) (n := 2) (Nat.le_of_ble_eq_true rfl)
  rw [lg_entry_eq]
  generalize (lg_sl ([.ref h0, .ref h1]) ++ List.replicate (2 - (lg_sl ([.ref h0, .ref h1])).length) Slot.unset).toArray = ls at hl ⊢
  have hl : lv_has ls 2 [(0, .ref h0), (1, .ref h1)] := hl
  refine lv_aload_n hx hb dX5_restore_0 rfl (lv_at hl 0 rfl) ?_
  refine t_gi hx hb hts hown hK hB mh0 th0 fi_5_1 rfl mw_2_49 dX5_restore_1 (fun x_1 ex_1 lx_1 ux_1 => ?_)
  refine lv_if_ne (tgt := 9) hx hb dX5_restore_4 (by decide) (fun c_2 => ?_) (fun c_2 => ?_)
  · skip
    have uc_2 := i_ne (n := 0) (by decide) c_2
    refine lv_aload_n hx hb dX5_restore_9 rfl (lv_at hl 0 rfl) ?_
    refine lv_aload_n hx hb dX5_restore_10 rfl (lv_at hl 0 rfl) ?_
    refine t_gi hx hb hts hown hK hB mh0 th0 fi_5_2 rfl mw_2_51 dX5_restore_11 (fun x_3 ex_3 lx_3 ux_3 => ?_)
    refine lv_if_le (tgt := 26) hx hb dX5_restore_14 (by decide) (fun c_4 => ?_) (fun c_4 => ?_)
    · skip
      have uc_4 := i_le (n := 0) (by decide) c_4
      refine lv_bipush (v := 19) hx hb dX5_restore_26 (by decide) ?_
      refine t_pi hx hb hts hown hK hLA hB hS mh0 th0 fi_5_2 rfl rfl rfl (by decide) (by decide) (Or.inl (by decide)) mw_2_51 dX5_restore_28 (fun H locs σ_5 eσ_5 hB hS => ?_)
      have k_6 : σ_5 h0 2 = 19 := by rw [eσ_5]; exact up2_same _ _ _ _
      refine lv_aload_n hx hb dX5_restore_31 rfl (lv_at hl 0 rfl) ?_
      refine lv_dup hx hb dX5_restore_32 rfl ?_
      have k_7 : σ_5 h0 1 = x_1 := by rw [eσ_5, up2_nej _ _ (by decide)]; exact ex_1.symm
      refine t_gv hx hb hts hown hK hB mh0 th0 fi_5_1 k_7 mw_2_49 dX5_restore_33 ?_
      refine lv_iconst (v := 1) hx hb dX5_restore_36 (by decide) ?_
      refine lv_isub hx hb dX5_restore_37 ?_
      refine lv_topi (fun x_8 ex_8 => ?_)
      have vx_8 := b_sub (rfl : x_1.toInt = _) (by decide : (1 : Int32).toInt = 1) ex_8 (by omega) (by omega)
      refine t_pi hx hb hts hown hK hLA hB hS mh0 th0 fi_5_1 rfl rfl rfl (by omega) (by omega) (Or.inl (by decide)) mw_2_49 dX5_restore_38 (fun H locs σ_9 eσ_9 hB hS => ?_)
      have k_10 : σ_9 h0 1 = x_8 := by rw [eσ_9]; exact up2_same _ _ _ _
      refine lv_aload_n hx hb dX5_restore_41 rfl (lv_at hl 1 rfl) ?_
      refine lv_aload_n hx hb dX5_restore_42 rfl (lv_at hl 0 rfl) ?_
      refine t_gr hx hb hts hown hK hG hB mh0 th0 fq_5_0 rfl mw_2_48 dX5_restore_43 (fun b_11 hb_11 mb_11 tb_11 => ?_)
      refine lv_aload_n hx hb dX5_restore_46 rfl (lv_at hl 0 rfl) ?_
      have k_12 : σ_9 h0 2 = 19 := by rw [eσ_9, up2_nej _ _ (by decide)]; exact k_6
      refine t_gv hx hb hts hown hK hB mh0 th0 fi_5_2 k_12 mw_2_51 dX5_restore_47 ?_
      refine t_aq hx hb hK hG hB mb_11 tb_11 aq_38 rfl (i_in (by decide) (by decide)) dX5_restore_50 (fun b_13 hb_13 mb_13 tb_13 => ?_)
      refine t_cv (va_runV (As := [.ref b_13]) (rest := []) ⟨hx, hb, hml, hown, hts⟩ (cy_X8_copyFrom_8_102 l D cA L T r hG hLA.1 σ_9 ρ hB.2.1 _ h1 mh1 th1 b_13 mb_13 tb_13) (cV hts mv_X8_copyFrom mw_4_108 rfl rfl ⟨Nat.le_of_ble_eq_true rfl, Nat.le_of_ble_eq_true rfl⟩) (pV hB.1 hK hN mh1 th1 (show shp cA 8 _ _ _ = .inr (8, Fs8 _ _ _) from rfl) rfl) rfl rfl hl.1 rfl (lv_room (Nat.le_of_ble_eq_true rfl)) dX5_restore_51 ⟨Nat.le_of_ble_eq_true rfl, Nat.le_of_ble_eq_true rfl⟩) hLA hA hB hS (by decide) (fun σ_14 ρ_15 H locs hB fσ_14 pσ_14 hS => ?_)
      refine lv_iconst (v := 1) hx hb dX5_restore_54 (by decide) ?_
      exact W.zret (v := 1) hx hb hr rfl (fun t ht hW => ⟨⟨1, (σ_14, ρ_15), rfl, ⟨hB.2.1, hB.2.2, (show 0 ≤ (1 : Int32).toInt ∧ (1 : Int32).toInt ≤ 1 from ⟨by decide, by decide⟩)⟩, (show TP D cA L T r σ_14 ρ_15 t.heap from by rw [ht]; exact hB.1)⟩, hS.F ht⟩) hS.2.2 dX5_restore_55
    · skip
      have uc_4 := i_nle (n := 0) (by decide) c_4
      refine lv_aload_n hx hb dX5_restore_17 rfl (lv_at hl 0 rfl) ?_
      refine t_gv hx hb hts hown hK hB mh0 th0 fi_5_2 ex_3.symm mw_2_51 dX5_restore_18 ?_
      refine lv_iconst (v := 1) hx hb dX5_restore_21 (by decide) ?_
      refine lv_isub hx hb dX5_restore_22 ?_
      refine lv_topi (fun x_17 ex_17 => ?_)
      have vx_17 := b_sub (rfl : x_3.toInt = _) (by decide : (1 : Int32).toInt = 1) ex_17 (by omega) (by omega)
      refine lv_goto (tgt := 28) hx hb dX5_restore_23 (by decide) ?_
      refine t_pi hx hb hts hown hK hLA hB hS mh0 th0 fi_5_2 rfl rfl rfl (by omega) (by omega) (Or.inl (by decide)) mw_2_51 dX5_restore_28 (fun H locs σ_18 eσ_18 hB hS => ?_)
      have k_19 : σ_18 h0 2 = x_17 := by rw [eσ_18]; exact up2_same _ _ _ _
      refine lv_aload_n hx hb dX5_restore_31 rfl (lv_at hl 0 rfl) ?_
      refine lv_dup hx hb dX5_restore_32 rfl ?_
      have k_20 : σ_18 h0 1 = x_1 := by rw [eσ_18, up2_nej _ _ (by decide)]; exact ex_1.symm
      refine t_gv hx hb hts hown hK hB mh0 th0 fi_5_1 k_20 mw_2_49 dX5_restore_33 ?_
      refine lv_iconst (v := 1) hx hb dX5_restore_36 (by decide) ?_
      refine lv_isub hx hb dX5_restore_37 ?_
      refine lv_topi (fun x_21 ex_21 => ?_)
      have vx_21 := b_sub (rfl : x_1.toInt = _) (by decide : (1 : Int32).toInt = 1) ex_21 (by omega) (by omega)
      refine t_pi hx hb hts hown hK hLA hB hS mh0 th0 fi_5_1 rfl rfl rfl (by omega) (by omega) (Or.inl (by decide)) mw_2_49 dX5_restore_38 (fun H locs σ_22 eσ_22 hB hS => ?_)
      have k_23 : σ_22 h0 1 = x_21 := by rw [eσ_22]; exact up2_same _ _ _ _
      refine lv_aload_n hx hb dX5_restore_41 rfl (lv_at hl 1 rfl) ?_
      refine lv_aload_n hx hb dX5_restore_42 rfl (lv_at hl 0 rfl) ?_
      refine t_gr hx hb hts hown hK hG hB mh0 th0 fq_5_0 rfl mw_2_48 dX5_restore_43 (fun b_24 hb_24 mb_24 tb_24 => ?_)
      refine lv_aload_n hx hb dX5_restore_46 rfl (lv_at hl 0 rfl) ?_
      have k_25 : σ_22 h0 2 = x_17 := by rw [eσ_22, up2_nej _ _ (by decide)]; exact k_19
      refine t_gv hx hb hts hown hK hB mh0 th0 fi_5_2 k_25 mw_2_51 dX5_restore_47 ?_
      refine t_aq hx hb hK hG hB mb_24 tb_24 aq_38 rfl (i_in (by omega) (by omega)) dX5_restore_50 (fun b_26 hb_26 mb_26 tb_26 => ?_)
      refine t_cv (va_runV (As := [.ref b_26]) (rest := []) ⟨hx, hb, hml, hown, hts⟩ (cy_X8_copyFrom_8_102 l D cA L T r hG hLA.1 σ_22 ρ hB.2.1 _ h1 mh1 th1 b_26 mb_26 tb_26) (cV hts mv_X8_copyFrom mw_4_108 rfl rfl ⟨Nat.le_of_ble_eq_true rfl, Nat.le_of_ble_eq_true rfl⟩) (pV hB.1 hK hN mh1 th1 (show shp cA 8 _ _ _ = .inr (8, Fs8 _ _ _) from rfl) rfl) rfl rfl hl.1 rfl (lv_room (Nat.le_of_ble_eq_true rfl)) dX5_restore_51 ⟨Nat.le_of_ble_eq_true rfl, Nat.le_of_ble_eq_true rfl⟩) hLA hA hB hS (by decide) (fun σ_27 ρ_28 H locs hB fσ_27 pσ_27 hS => ?_)
      refine lv_iconst (v := 1) hx hb dX5_restore_54 (by decide) ?_
      exact W.zret (v := 1) hx hb hr rfl (fun t ht hW => ⟨⟨1, (σ_27, ρ_28), rfl, ⟨hB.2.1, hB.2.2, (show 0 ≤ (1 : Int32).toInt ∧ (1 : Int32).toInt ≤ 1 from ⟨by decide, by decide⟩)⟩, (show TP D cA L T r σ_27 ρ_28 t.heap from by rw [ht]; exact hB.1)⟩, hS.F ht⟩) hS.2.2 dX5_restore_55
  · skip
    have uc_2 := i_eq (n := 0) (by decide) c_2
    refine lv_iconst (v := 0) hx hb dX5_restore_7 (by decide) ?_
    exact W.zret (v := 0) hx hb hr rfl (fun t ht hW => ⟨⟨0, (σ, ρ), rfl, ⟨hB.2.1, hB.2.2, (show 0 ≤ (0 : Int32).toInt ∧ (0 : Int32).toInt ≤ 1 from ⟨by decide, by decide⟩)⟩, (show TP D cA L T r σ ρ t.heap from by rw [ht]; exact hB.1)⟩, hS.F ht⟩) hS.2.2 dX5_restore_8
theorem mw_2_167 : (.fieldLink RX2 25 "HillBends$Forecast" "foreseen" "I" : Cond) ∈ wsA := wsA_t (List.mem_append_right _ (List.mem_append_left _ (List.mem_of_getElem? (l := tables_1_2) (i := 167) rfl))) rfl
theorem dX2_forget_0 : decode cX2_forget 0 = .ok (.aload_n 0, 1) := by decide +kernel
theorem dX2_forget_1 : decode cX2_forget 1 = .ok (.iconst 0, 1) := by decide +kernel
theorem dX2_forget_2 : decode cX2_forget 2 = .ok (.putfield 25, 3) := by decide +kernel
theorem dX2_forget_5 : decode cX2_forget 5 = .ok (.return_, 1) := by decide +kernel
set_option maxHeartbeats 4000000 in
set_option maxRecDepth 100000 in
theorem cy_X2_forget (l : Launch) (D : va_G) (cA : Nat → ClassId) (L : List Nat) (T : Nat → Nat) (r : Rg) (hG : GR L T r) (hL : L.Nodup) (σ : Sg) (ρ : Lg) (hW : WT L ry T σ) (sz : Nat) (h0 : Nat) (mh0 : h0 ∈ L) (th0 : T h0 = 2) : Met l yX2_forget (.code yX2_forget cX2_forget 1 none :: wsA) ({ frames := 0, cells := 0, slots := 0, locals := 0 }) (PR D cA L T r σ ρ sz [.ref h0]) (QV D cA L T r ry [(2, 3)] σ sz (fun σ1 => True)) 0 0 (dm L sz) := by
  refine Met.ofW (cc := cX2_forget) (maxL := 1) (ret := none) (by decide) rfl ?_
  intro p e s m args below meth c s₁ B hml hv
  obtain ⟨rfl, hsz, hP, hK, hN⟩ := hv
  have hx := B.exec
  have hb := B.bytes
  have hr := B.returns
  have hts : ∀ w ∈ wsA, w.before _ s = true := fun w h => atoms_spec (ws := .code yX2_forget cX2_forget 1 none :: wsA) B.pre w (List.mem_cons_of_mem _ h)
  have hown : s.vm.findClass RX2 = some m.cls := findClass_of_methodNamed B.named
  subst hsz
  have hLA : LA (dm L s.heap.size) L := ⟨hL, fun a h => Or.inl h⟩
  have hA : ∀ q : Nat, s.heap.size ≤ q → dm L s.heap.size q := fun q h => Or.inr h
  have hS : va_S (dm L s.heap.size) s.heap s.heap [] := va_S.rf
  have hB : TS D cA L T r ry [(2, 3)] σ σ ρ s.heap := ⟨hP, hW, FR.rf⟩
  have hl := lv_entry ([.ref h0]) (n := 1) (Nat.le_of_ble_eq_true rfl)
  rw [lg_entry_eq]
  generalize (lg_sl ([.ref h0]) ++ List.replicate (1 - (lg_sl ([.ref h0])).length) Slot.unset).toArray = ls at hl ⊢
  have hl : lv_has ls 1 [(0, .ref h0)] := hl
  refine lv_aload_n hx hb dX2_forget_0 rfl (lv_at hl 0 rfl) ?_
  refine lv_iconst (v := 0) hx hb dX2_forget_1 (by decide) ?_
  refine t_pi hx hb hts hown hK hLA hB hS mh0 th0 fi_2_3 rfl rfl rfl (i_lo _) (i_hi _) (Or.inl (by decide)) mw_2_167 dX2_forget_2 (fun H locs σ_1 eσ_1 hB hS => ?_)
  have k_2 : σ_1 h0 3 = 0 := by rw [eσ_1]; exact up2_same _ _ _ _
  exact W.vret hx hb hr (fun t ht hW => ⟨⟨(σ_1, ρ), rfl, ⟨hB.2.1, hB.2.2, trivial⟩, (show TP D cA L T r σ_1 ρ t.heap from by rw [ht]; exact hB.1)⟩, hS.F ht⟩) hS.2.2 dX2_forget_5
theorem mw_2_95 : (.fieldLink RX0 9 "HillBends$Chances" "stock" "[I" : Cond) ∈ wsA := wsA_t (List.mem_append_right _ (List.mem_append_left _ (List.mem_of_getElem? (l := tables_1_2) (i := 95) rfl))) rfl
theorem mw_1_96 : (.fieldLink RX0 24 "HillBends$Scene" "has" "[I" : Cond) ∈ wsA := wsA_t (List.mem_append_left _ (List.mem_of_getElem? (l := tables_1_1) (i := 96) rfl)) rfl
theorem dX0_stockUp_0 : decode cX0_stockUp 0 = .ok (.iconst 0, 1) := by decide +kernel
theorem dX0_stockUp_1 : decode cX0_stockUp 1 = .ok (.istore_n 3, 1) := by decide +kernel
theorem dX0_stockUp_2 : decode cX0_stockUp 2 = .ok (.iload_n 3, 1) := by decide +kernel
theorem dX0_stockUp_3 : decode cX0_stockUp 3 = .ok (.iconst 5, 1) := by decide +kernel
theorem dX0_stockUp_4 : decode cX0_stockUp 4 = .ok (.if_icmp .ge 25, 3) := by decide +kernel
theorem dX0_stockUp_29 : decode cX0_stockUp 29 = .ok (.return_, 1) := by decide +kernel
theorem dX0_stockUp_7 : decode cX0_stockUp 7 = .ok (.aload_n 0, 1) := by decide +kernel
theorem dX0_stockUp_8 : decode cX0_stockUp 8 = .ok (.getfield 9, 3) := by decide +kernel
theorem dX0_stockUp_11 : decode cX0_stockUp 11 = .ok (.iload_n 3, 1) := by decide +kernel
theorem dX0_stockUp_12 : decode cX0_stockUp 12 = .ok (.aload_n 1, 1) := by decide +kernel
theorem dX0_stockUp_13 : decode cX0_stockUp 13 = .ok (.getfield 24, 3) := by decide +kernel
theorem dX0_stockUp_16 : decode cX0_stockUp 16 = .ok (.iload_n 2, 1) := by decide +kernel
theorem dX0_stockUp_17 : decode cX0_stockUp 17 = .ok (.iconst 5, 1) := by decide +kernel
theorem dX0_stockUp_18 : decode cX0_stockUp 18 = .ok (.imul, 1) := by decide +kernel
theorem dX0_stockUp_19 : decode cX0_stockUp 19 = .ok (.iload_n 3, 1) := by decide +kernel
theorem dX0_stockUp_20 : decode cX0_stockUp 20 = .ok (.iadd, 1) := by decide +kernel
theorem dX0_stockUp_21 : decode cX0_stockUp 21 = .ok (.iaload, 1) := by decide +kernel
theorem dX0_stockUp_22 : decode cX0_stockUp 22 = .ok (.iastore, 1) := by decide +kernel
theorem dX0_stockUp_23 : decode cX0_stockUp 23 = .ok (.iinc 3 1, 3) := by decide +kernel
theorem dX0_stockUp_26 : decode cX0_stockUp 26 = .ok (.goto (-24), 3) := by decide +kernel
set_option maxHeartbeats 4000000 in
set_option maxRecDepth 100000 in
theorem cy_X0_stockUp (l : Launch) (D : va_G) (cA : Nat → ClassId) (L : List Nat) (T : Nat → Nat) (r : Rg) (hG : GR L T r) (hL : L.Nodup) (σ : Sg) (ρ : Lg) (hW : WT L ry T σ) (sz : Nat) (h0 : Nat) (mh0 : h0 ∈ L) (th0 : T h0 = 0) (h1 : Nat) (mh1 : h1 ∈ L) (th1 : T h1 = 8) (p2 : Int32) (w0 : 0 ≤ p2.toInt) (w1 : p2.toInt ≤ 3) : Met l yX0_stockUp (.code yX0_stockUp cX0_stockUp 4 none :: wsA) ({ frames := 0, cells := 0, slots := 0, locals := 0 }) (PR D cA L T r σ ρ sz [.ref h0, .ref h1, .int p2]) (QV D cA L T r ry [(20, 1000)] σ sz (fun σ1 => True)) 0 0 (dm L sz) := by
  refine Met.ofW (cc := cX0_stockUp) (maxL := 4) (ret := none) (by decide) rfl ?_
  intro p e s m args below meth c s₁ B hml hv
  obtain ⟨rfl, hsz, hP, hK, hN⟩ := hv
  have hx := B.exec
  have hb := B.bytes
  have hr := B.returns
  have hts : ∀ w ∈ wsA, w.before _ s = true := fun w h => atoms_spec (ws := .code yX0_stockUp cX0_stockUp 4 none :: wsA) B.pre w (List.mem_cons_of_mem _ h)
  have hown : s.vm.findClass RX0 = some m.cls := findClass_of_methodNamed B.named
  subst hsz
  have hLA : LA (dm L s.heap.size) L := ⟨hL, fun a h => Or.inl h⟩
  have hA : ∀ q : Nat, s.heap.size ≤ q → dm L s.heap.size q := fun q h => Or.inr h
  have hS : va_S (dm L s.heap.size) s.heap s.heap [] := va_S.rf
  have hB : TS D cA L T r ry [(20, 1000)] σ σ ρ s.heap := ⟨hP, hW, FR.rf⟩
  have hl := lv_entry ([.ref h0, .ref h1, .int p2]) (n := 4) (Nat.le_of_ble_eq_true rfl)
  rw [lg_entry_eq]
  generalize (lg_sl ([.ref h0, .ref h1, .int p2]) ++ List.replicate (4 - (lg_sl ([.ref h0, .ref h1, .int p2])).length) Slot.unset).toArray = ls at hl ⊢
  have hl : lv_has ls 4 [(0, .ref h0), (1, .ref h1), (2, .int p2)] := hl
  refine lv_iconst (v := 0) hx hb dX0_stockUp_0 (by decide) ?_
  refine lv_istore_n (lv' := [(3, .int 0), (0, .ref h0), (1, .ref h1), (2, .int p2)]) hx hb dX0_stockUp_1 rfl hl (by decide) rfl (fun ls hl => ?_)
  refine w_loop (α := Int32 × Sg × Lg) (fun (i_1, σ_2, ρ_3) H locs ls => 0 ≤ i_1.toInt ∧ i_1.toInt ≤ 5 ∧ TS D cA L T r ry [(20, 1000)] σ σ_2 ρ_3 H ∧ va_S (dm L s.heap.size) s.heap H locs ∧ lv_has ls 4 [(3, .int i_1), (0, .ref h0), (1, .ref h1), (2, .int p2)]) (fun (i_1, σ_2, ρ_3) => (5 - i_1.toInt).toNat) ?_ ⟨0, σ, ρ⟩ ⟨(by decide), (by decide), hB, hS, lv_sub hl [0, 1, 2, 3] rfl⟩
  rintro ⟨i_1, σ_2, ρ_3⟩ H locs ls ⟨li_1, ui_1, hB, hS, hl⟩ ih_4
  refine lv_iload_n hx hb dX0_stockUp_2 rfl (lv_at hl 0 rfl) ?_
  refine lv_iconst (v := 5) hx hb dX0_stockUp_3 (by decide) ?_
  refine lv_icmp_ge (tgt := 29) hx hb dX0_stockUp_4 (by decide) (fun c_5 => ?_) (fun c_5 => ?_)
  · skip
    have uc_5 := i_ge (n := 5) (by decide) c_5
    exact W.vret hx hb hr (fun t ht hW => ⟨⟨(σ_2, ρ_3), rfl, ⟨hB.2.1, hB.2.2, trivial⟩, (show TP D cA L T r σ_2 ρ_3 t.heap from by rw [ht]; exact hB.1)⟩, hS.F ht⟩) hS.2.2 dX0_stockUp_29
  · skip
    have uc_5 := i_nge (n := 5) (by decide) c_5
    refine lv_aload_n hx hb dX0_stockUp_7 rfl (lv_at hl 1 rfl) ?_
    refine t_gr hx hb hts hown hK hG hB mh0 th0 fq_0_0 rfl mw_2_95 dX0_stockUp_8 (fun b_6 hb_6 mb_6 tb_6 => ?_)
    refine lv_iload_n hx hb dX0_stockUp_11 rfl (lv_at hl 0 rfl) ?_
    refine lv_aload_n hx hb dX0_stockUp_12 rfl (lv_at hl 2 rfl) ?_
    refine t_gr hx hb hts hown hK hG hB mh1 th1 fq_8_4 rfl mw_1_96 dX0_stockUp_13 (fun b_7 hb_7 mb_7 tb_7 => ?_)
    refine lv_iload_n hx hb dX0_stockUp_16 rfl (lv_at hl 3 rfl) ?_
    refine lv_iconst (v := 5) hx hb dX0_stockUp_17 (by decide) ?_
    refine lv_imul hx hb dX0_stockUp_18 ?_
    refine lv_topi (fun x_8 ex_8 => ?_)
    have vx_8 := b_mul (rfl : p2.toInt = _) (by decide : (5 : Int32).toInt = 5) ex_8 (by omega) (by omega)
    refine lv_iload_n hx hb dX0_stockUp_19 rfl (lv_at hl 0 rfl) ?_
    refine lv_iadd hx hb dX0_stockUp_20 ?_
    refine lv_topi (fun x_9 ex_9 => ?_)
    have vx_9 := b_add (rfl : x_8.toInt = _) (rfl : i_1.toInt = _) ex_9 (by omega) (by omega)
    refine t_ai hx hb hK hB mb_7 tb_7 ai_49 (fun _ => rfl) (i_in (by omega) (by omega)) dX0_stockUp_21 (fun x_10 ex_10 lx_10 ux_10 => ?_)
    refine t_si hx hb hK hLA hB hS mb_6 tb_6 ai_20 (i_in (by omega) (by omega)) (i_lo _) (i_hi _) (Or.inr (by decide)) dX0_stockUp_22 (fun H locs σ_11 eσ_11 hB hS => ?_)
    have k_12 : σ_11 b_6 i_1.toNatClampNeg = x_10 := by rw [eσ_11]; exact up2_same _ _ _ _
    obtain ⟨x_13, ex_13⟩ : ∃ y : Int32, y = i_1 + 1 := ⟨_, rfl⟩
    have vx_13 := b_add (rfl : i_1.toInt = _) (by decide : (1 : Int32).toInt = 1) ex_13 (by omega) (by omega)
    refine lv_iinc (v := x_13) (lv' := [(3, .int x_13), (0, .ref h0), (1, .ref h1), (2, .int p2)]) hx hb dX0_stockUp_23 hl (k := 0) rfl (by rw [ex_13]; rfl) (by decide) rfl (fun ls hl => ?_)
    refine lv_goto (tgt := 2) hx hb dX0_stockUp_26 (by decide) ?_
    exact ih_4 ⟨x_13, σ_11, ρ_3⟩ _ _ _ ⟨(by omega), (by omega), hB, hS, lv_sub hl [0, 1, 2, 3] rfl⟩ (by show (5 - x_13.toInt).toNat < (5 - i_1.toInt).toNat; omega)
theorem mw_2_97 : (.fieldLink RX0 15 "HillBends$Chances" "need" "[I" : Cond) ∈ wsA := wsA_t (List.mem_append_right _ (List.mem_append_left _ (List.mem_of_getElem? (l := tables_1_2) (i := 97) rfl))) rfl
theorem dX0_clearNeed_0 : decode cX0_clearNeed 0 = .ok (.iconst 0, 1) := by decide +kernel
theorem dX0_clearNeed_1 : decode cX0_clearNeed 1 = .ok (.istore_n 1, 1) := by decide +kernel
theorem dX0_clearNeed_2 : decode cX0_clearNeed 2 = .ok (.iload_n 1, 1) := by decide +kernel
theorem dX0_clearNeed_3 : decode cX0_clearNeed 3 = .ok (.iconst 5, 1) := by decide +kernel
theorem dX0_clearNeed_4 : decode cX0_clearNeed 4 = .ok (.if_icmp .ge 16, 3) := by decide +kernel
theorem dX0_clearNeed_20 : decode cX0_clearNeed 20 = .ok (.return_, 1) := by decide +kernel
theorem dX0_clearNeed_7 : decode cX0_clearNeed 7 = .ok (.aload_n 0, 1) := by decide +kernel
theorem dX0_clearNeed_8 : decode cX0_clearNeed 8 = .ok (.getfield 15, 3) := by decide +kernel
theorem dX0_clearNeed_11 : decode cX0_clearNeed 11 = .ok (.iload_n 1, 1) := by decide +kernel
theorem dX0_clearNeed_12 : decode cX0_clearNeed 12 = .ok (.iconst 0, 1) := by decide +kernel
theorem dX0_clearNeed_13 : decode cX0_clearNeed 13 = .ok (.iastore, 1) := by decide +kernel
theorem dX0_clearNeed_14 : decode cX0_clearNeed 14 = .ok (.iinc 1 1, 3) := by decide +kernel
theorem dX0_clearNeed_17 : decode cX0_clearNeed 17 = .ok (.goto (-15), 3) := by decide +kernel
set_option maxHeartbeats 4000000 in
set_option maxRecDepth 100000 in
theorem cy_X0_clearNeed (l : Launch) (D : va_G) (cA : Nat → ClassId) (L : List Nat) (T : Nat → Nat) (r : Rg) (hG : GR L T r) (hL : L.Nodup) (σ : Sg) (ρ : Lg) (hW : WT L ry T σ) (sz : Nat) (h0 : Nat) (mh0 : h0 ∈ L) (th0 : T h0 = 0) : Met l yX0_clearNeed (.code yX0_clearNeed cX0_clearNeed 2 none :: wsA) ({ frames := 0, cells := 0, slots := 0, locals := 0 }) (PR D cA L T r σ ρ sz [.ref h0]) (QV D cA L T r ry [(21, 1000)] σ sz (fun σ1 => True)) 0 0 (dm L sz) := by
  refine Met.ofW (cc := cX0_clearNeed) (maxL := 2) (ret := none) (by decide) rfl ?_
  intro p e s m args below meth c s₁ B hml hv
  obtain ⟨rfl, hsz, hP, hK, hN⟩ := hv
  have hx := B.exec
  have hb := B.bytes
  have hr := B.returns
  have hts : ∀ w ∈ wsA, w.before _ s = true := fun w h => atoms_spec (ws := .code yX0_clearNeed cX0_clearNeed 2 none :: wsA) B.pre w (List.mem_cons_of_mem _ h)
  have hown : s.vm.findClass RX0 = some m.cls := findClass_of_methodNamed B.named
  subst hsz
  have hLA : LA (dm L s.heap.size) L := ⟨hL, fun a h => Or.inl h⟩
  have hA : ∀ q : Nat, s.heap.size ≤ q → dm L s.heap.size q := fun q h => Or.inr h
  have hS : va_S (dm L s.heap.size) s.heap s.heap [] := va_S.rf
  have hB : TS D cA L T r ry [(21, 1000)] σ σ ρ s.heap := ⟨hP, hW, FR.rf⟩
  have hl := lv_entry ([.ref h0]) (n := 2) (Nat.le_of_ble_eq_true rfl)
  rw [lg_entry_eq]
  generalize (lg_sl ([.ref h0]) ++ List.replicate (2 - (lg_sl ([.ref h0])).length) Slot.unset).toArray = ls at hl ⊢
  have hl : lv_has ls 2 [(0, .ref h0)] := hl
  refine lv_iconst (v := 0) hx hb dX0_clearNeed_0 (by decide) ?_
  refine lv_istore_n (lv' := [(1, .int 0), (0, .ref h0)]) hx hb dX0_clearNeed_1 rfl hl (by decide) rfl (fun ls hl => ?_)
  refine w_loop (α := Int32 × Sg × Lg) (fun (i_1, σ_2, ρ_3) H locs ls => 0 ≤ i_1.toInt ∧ i_1.toInt ≤ 5 ∧ TS D cA L T r ry [(21, 1000)] σ σ_2 ρ_3 H ∧ va_S (dm L s.heap.size) s.heap H locs ∧ lv_has ls 2 [(1, .int i_1), (0, .ref h0)]) (fun (i_1, σ_2, ρ_3) => (5 - i_1.toInt).toNat) ?_ ⟨0, σ, ρ⟩ ⟨(by decide), (by decide), hB, hS, lv_sub hl [0, 1] rfl⟩
  rintro ⟨i_1, σ_2, ρ_3⟩ H locs ls ⟨li_1, ui_1, hB, hS, hl⟩ ih_4
  refine lv_iload_n hx hb dX0_clearNeed_2 rfl (lv_at hl 0 rfl) ?_
  refine lv_iconst (v := 5) hx hb dX0_clearNeed_3 (by decide) ?_
  refine lv_icmp_ge (tgt := 20) hx hb dX0_clearNeed_4 (by decide) (fun c_5 => ?_) (fun c_5 => ?_)
  · skip
    have uc_5 := i_ge (n := 5) (by decide) c_5
    exact W.vret hx hb hr (fun t ht hW => ⟨⟨(σ_2, ρ_3), rfl, ⟨hB.2.1, hB.2.2, trivial⟩, (show TP D cA L T r σ_2 ρ_3 t.heap from by rw [ht]; exact hB.1)⟩, hS.F ht⟩) hS.2.2 dX0_clearNeed_20
  · skip
    have uc_5 := i_nge (n := 5) (by decide) c_5
    refine lv_aload_n hx hb dX0_clearNeed_7 rfl (lv_at hl 1 rfl) ?_
    refine t_gr hx hb hts hown hK hG hB mh0 th0 fq_0_1 rfl mw_2_97 dX0_clearNeed_8 (fun b_6 hb_6 mb_6 tb_6 => ?_)
    refine lv_iload_n hx hb dX0_clearNeed_11 rfl (lv_at hl 0 rfl) ?_
    refine lv_iconst (v := 0) hx hb dX0_clearNeed_12 (by decide) ?_
    refine t_si hx hb hK hLA hB hS mb_6 tb_6 ai_21 (i_in (by omega) (by omega)) (i_lo _) (i_hi _) (Or.inr (by decide)) dX0_clearNeed_13 (fun H locs σ_7 eσ_7 hB hS => ?_)
    have k_8 : σ_7 b_6 i_1.toNatClampNeg = 0 := by rw [eσ_7]; exact up2_same _ _ _ _
    obtain ⟨x_9, ex_9⟩ : ∃ y : Int32, y = i_1 + 1 := ⟨_, rfl⟩
    have vx_9 := b_add (rfl : i_1.toInt = _) (by decide : (1 : Int32).toInt = 1) ex_9 (by omega) (by omega)
    refine lv_iinc (v := x_9) (lv' := [(1, .int x_9), (0, .ref h0)]) hx hb dX0_clearNeed_14 hl (k := 0) rfl (by rw [ex_9]; rfl) (by decide) rfl (fun ls hl => ?_)
    refine lv_goto (tgt := 2) hx hb dX0_clearNeed_17 (by decide) ?_
    exact ih_4 ⟨x_9, σ_7, ρ_3⟩ _ _ _ ⟨(by omega), (by omega), hB, hS, lv_sub hl [0, 1] rfl⟩ (by show (5 - x_9.toInt).toNat < (5 - i_1.toInt).toNat; omega)
theorem mw_5_0 : (.methodLink RX0 61 yJ9_max_7cf53 : Cond) ∈ wsA := wsA_t (List.mem_append_right _ (List.mem_append_right _ (List.mem_append_right _ (List.mem_append_right _ (List.mem_append_left _ (List.mem_of_getElem? (l := tables_1_5) (i := 0) rfl)))))) rfl
theorem mw_3_120 : (.static yJ9_max_7cf53 : Cond) ∈ wsA := wsA_t (List.mem_append_right _ (List.mem_append_right _ (List.mem_append_left _ (List.mem_of_getElem? (l := tables_1_3) (i := 120) rfl)))) rfl
theorem mw_3_121 : (.code yJ9_max_7cf53 cJ9_max_7cf53 2 (some .int) : Cond) ∈ wsA := wsA_t (List.mem_append_right _ (List.mem_append_right _ (List.mem_append_left _ (List.mem_of_getElem? (l := tables_1_3) (i := 121) rfl)))) rfl
theorem dX0_lessenNeed_0 : decode cX0_lessenNeed 0 = .ok (.iconst 0, 1) := by decide +kernel
theorem dX0_lessenNeed_1 : decode cX0_lessenNeed 1 = .ok (.istore_n 3, 1) := by decide +kernel
theorem dX0_lessenNeed_2 : decode cX0_lessenNeed 2 = .ok (.iload_n 3, 1) := by decide +kernel
theorem dX0_lessenNeed_3 : decode cX0_lessenNeed 3 = .ok (.iconst 5, 1) := by decide +kernel
theorem dX0_lessenNeed_4 : decode cX0_lessenNeed 4 = .ok (.if_icmp .ge 36, 3) := by decide +kernel
theorem dX0_lessenNeed_40 : decode cX0_lessenNeed 40 = .ok (.return_, 1) := by decide +kernel
theorem dX0_lessenNeed_7 : decode cX0_lessenNeed 7 = .ok (.aload_n 0, 1) := by decide +kernel
theorem dX0_lessenNeed_8 : decode cX0_lessenNeed 8 = .ok (.getfield 15, 3) := by decide +kernel
theorem dX0_lessenNeed_11 : decode cX0_lessenNeed 11 = .ok (.iload_n 3, 1) := by decide +kernel
theorem dX0_lessenNeed_12 : decode cX0_lessenNeed 12 = .ok (.iconst 0, 1) := by decide +kernel
theorem dX0_lessenNeed_13 : decode cX0_lessenNeed 13 = .ok (.aload_n 0, 1) := by decide +kernel
theorem dX0_lessenNeed_14 : decode cX0_lessenNeed 14 = .ok (.getfield 15, 3) := by decide +kernel
theorem dX0_lessenNeed_17 : decode cX0_lessenNeed 17 = .ok (.iload_n 3, 1) := by decide +kernel
theorem dX0_lessenNeed_18 : decode cX0_lessenNeed 18 = .ok (.iaload, 1) := by decide +kernel
theorem dX0_lessenNeed_19 : decode cX0_lessenNeed 19 = .ok (.aload_n 1, 1) := by decide +kernel
theorem dX0_lessenNeed_20 : decode cX0_lessenNeed 20 = .ok (.getfield 24, 3) := by decide +kernel
theorem dX0_lessenNeed_23 : decode cX0_lessenNeed 23 = .ok (.iload_n 2, 1) := by decide +kernel
theorem dX0_lessenNeed_24 : decode cX0_lessenNeed 24 = .ok (.iconst 5, 1) := by decide +kernel
theorem dX0_lessenNeed_25 : decode cX0_lessenNeed 25 = .ok (.imul, 1) := by decide +kernel
theorem dX0_lessenNeed_26 : decode cX0_lessenNeed 26 = .ok (.iload_n 3, 1) := by decide +kernel
theorem dX0_lessenNeed_27 : decode cX0_lessenNeed 27 = .ok (.iadd, 1) := by decide +kernel
theorem dX0_lessenNeed_28 : decode cX0_lessenNeed 28 = .ok (.iaload, 1) := by decide +kernel
theorem dX0_lessenNeed_29 : decode cX0_lessenNeed 29 = .ok (.isub, 1) := by decide +kernel
theorem dX0_lessenNeed_30 : decode cX0_lessenNeed 30 = .ok (.invokestatic 61, 3) := by decide +kernel
theorem dX0_lessenNeed_33 : decode cX0_lessenNeed 33 = .ok (.iastore, 1) := by decide +kernel
theorem dX0_lessenNeed_34 : decode cX0_lessenNeed 34 = .ok (.iinc 3 1, 3) := by decide +kernel
theorem dX0_lessenNeed_37 : decode cX0_lessenNeed 37 = .ok (.goto (-35), 3) := by decide +kernel
set_option maxHeartbeats 4000000 in
set_option maxRecDepth 100000 in
theorem cy_X0_lessenNeed (l : Launch) (D : va_G) (cA : Nat → ClassId) (L : List Nat) (T : Nat → Nat) (r : Rg) (hG : GR L T r) (hL : L.Nodup) (σ : Sg) (ρ : Lg) (hW : WT L ry T σ) (sz : Nat) (h0 : Nat) (mh0 : h0 ∈ L) (th0 : T h0 = 0) (h1 : Nat) (mh1 : h1 ∈ L) (th1 : T h1 = 8) (p2 : Int32) (w0 : 0 ≤ p2.toInt) (w1 : p2.toInt ≤ 3) : Met l yX0_lessenNeed (.code yX0_lessenNeed cX0_lessenNeed 4 none :: wsA) ({ frames := 1, cells := 0, slots := 0, locals := 40 }) (PR D cA L T r σ ρ sz [.ref h0, .ref h1, .int p2]) (QV D cA L T r ry [(21, 1000)] σ sz (fun σ1 => True)) 0 0 (dm L sz) := by
  refine Met.ofW (cc := cX0_lessenNeed) (maxL := 4) (ret := none) (by decide) rfl ?_
  intro p e s m args below meth c s₁ B hml hv
  obtain ⟨rfl, hsz, hP, hK, hN⟩ := hv
  have hx := B.exec
  have hb := B.bytes
  have hr := B.returns
  have hts : ∀ w ∈ wsA, w.before _ s = true := fun w h => atoms_spec (ws := .code yX0_lessenNeed cX0_lessenNeed 4 none :: wsA) B.pre w (List.mem_cons_of_mem _ h)
  have hown : s.vm.findClass RX0 = some m.cls := findClass_of_methodNamed B.named
  subst hsz
  have hLA : LA (dm L s.heap.size) L := ⟨hL, fun a h => Or.inl h⟩
  have hA : ∀ q : Nat, s.heap.size ≤ q → dm L s.heap.size q := fun q h => Or.inr h
  have hS : va_S (dm L s.heap.size) s.heap s.heap [] := va_S.rf
  have hB : TS D cA L T r ry [(21, 1000)] σ σ ρ s.heap := ⟨hP, hW, FR.rf⟩
  have hl := lv_entry ([.ref h0, .ref h1, .int p2]) (n := 4) (Nat.le_of_ble_eq_true rfl)
  rw [lg_entry_eq]
  generalize (lg_sl ([.ref h0, .ref h1, .int p2]) ++ List.replicate (4 - (lg_sl ([.ref h0, .ref h1, .int p2])).length) Slot.unset).toArray = ls at hl ⊢
  have hl : lv_has ls 4 [(0, .ref h0), (1, .ref h1), (2, .int p2)] := hl
  refine lv_iconst (v := 0) hx hb dX0_lessenNeed_0 (by decide) ?_
  refine lv_istore_n (lv' := [(3, .int 0), (0, .ref h0), (1, .ref h1), (2, .int p2)]) hx hb dX0_lessenNeed_1 rfl hl (by decide) rfl (fun ls hl => ?_)
  refine w_loop (α := Int32 × Sg × Lg) (fun (i_1, σ_2, ρ_3) H locs ls => 0 ≤ i_1.toInt ∧ i_1.toInt ≤ 5 ∧ TS D cA L T r ry [(21, 1000)] σ σ_2 ρ_3 H ∧ va_S (dm L s.heap.size) s.heap H locs ∧ lv_has ls 4 [(3, .int i_1), (0, .ref h0), (1, .ref h1), (2, .int p2)]) (fun (i_1, σ_2, ρ_3) => (5 - i_1.toInt).toNat) ?_ ⟨0, σ, ρ⟩ ⟨(by decide), (by decide), hB, hS, lv_sub hl [0, 1, 2, 3] rfl⟩
  rintro ⟨i_1, σ_2, ρ_3⟩ H locs ls ⟨li_1, ui_1, hB, hS, hl⟩ ih_4
  refine lv_iload_n hx hb dX0_lessenNeed_2 rfl (lv_at hl 0 rfl) ?_
  refine lv_iconst (v := 5) hx hb dX0_lessenNeed_3 (by decide) ?_
  refine lv_icmp_ge (tgt := 40) hx hb dX0_lessenNeed_4 (by decide) (fun c_5 => ?_) (fun c_5 => ?_)
  · skip
    have uc_5 := i_ge (n := 5) (by decide) c_5
    exact W.vret hx hb hr (fun t ht hW => ⟨⟨(σ_2, ρ_3), rfl, ⟨hB.2.1, hB.2.2, trivial⟩, (show TP D cA L T r σ_2 ρ_3 t.heap from by rw [ht]; exact hB.1)⟩, hS.F ht⟩) hS.2.2 dX0_lessenNeed_40
  · skip
    have uc_5 := i_nge (n := 5) (by decide) c_5
    refine lv_aload_n hx hb dX0_lessenNeed_7 rfl (lv_at hl 1 rfl) ?_
    refine t_gr hx hb hts hown hK hG hB mh0 th0 fq_0_1 rfl mw_2_97 dX0_lessenNeed_8 (fun b_6 hb_6 mb_6 tb_6 => ?_)
    refine lv_iload_n hx hb dX0_lessenNeed_11 rfl (lv_at hl 0 rfl) ?_
    refine lv_iconst (v := 0) hx hb dX0_lessenNeed_12 (by decide) ?_
    refine lv_aload_n hx hb dX0_lessenNeed_13 rfl (lv_at hl 1 rfl) ?_
    refine t_gk hx hb hts hown hK hB mh0 th0 fq_0_1 hb_6 mw_2_97 dX0_lessenNeed_14 ?_
    refine lv_iload_n hx hb dX0_lessenNeed_17 rfl (lv_at hl 0 rfl) ?_
    refine t_ai hx hb hK hB mb_6 tb_6 ai_21 (fun _ => rfl) (i_in (by omega) (by omega)) dX0_lessenNeed_18 (fun x_7 ex_7 lx_7 ux_7 => ?_)
    refine lv_aload_n hx hb dX0_lessenNeed_19 rfl (lv_at hl 2 rfl) ?_
    refine t_gr hx hb hts hown hK hG hB mh1 th1 fq_8_4 rfl mw_1_96 dX0_lessenNeed_20 (fun b_8 hb_8 mb_8 tb_8 => ?_)
    refine lv_iload_n hx hb dX0_lessenNeed_23 rfl (lv_at hl 3 rfl) ?_
    refine lv_iconst (v := 5) hx hb dX0_lessenNeed_24 (by decide) ?_
    refine lv_imul hx hb dX0_lessenNeed_25 ?_
    refine lv_topi (fun x_9 ex_9 => ?_)
    have vx_9 := b_mul (rfl : p2.toInt = _) (by decide : (5 : Int32).toInt = 5) ex_9 (by omega) (by omega)
    refine lv_iload_n hx hb dX0_lessenNeed_26 rfl (lv_at hl 0 rfl) ?_
    refine lv_iadd hx hb dX0_lessenNeed_27 ?_
    refine lv_topi (fun x_10 ex_10 => ?_)
    have vx_10 := b_add (rfl : x_9.toInt = _) (rfl : i_1.toInt = _) ex_10 (by omega) (by omega)
    refine t_ai hx hb hK hB mb_8 tb_8 ai_49 (fun _ => rfl) (i_in (by omega) (by omega)) dX0_lessenNeed_28 (fun x_11 ex_11 lx_11 ux_11 => ?_)
    refine lv_isub hx hb dX0_lessenNeed_29 ?_
    refine lv_topi (fun x_12 ex_12 => ?_)
    refine va_mmax hx hb (hml.trans hl.1.symm) hown (hts _ mw_5_0) (hts _ mw_3_120) (hts _ mw_1_18) (hts _ mw_3_121) (Nat.le_of_ble_eq_true rfl) (Nat.le_of_ble_eq_true rfl) (Nat.zero_le _) (Nat.zero_le _) dX0_lessenNeed_30 ?_
    refine lv_topi (fun x_13 ex_13 => ?_)
    obtain ⟨lx_13, mx_13, ux_13⟩ := m_max (by decide : (0 : Int32).toInt = 0) (rfl : x_12.toInt = _) ex_13
    refine t_si hx hb hK hLA hB hS mb_6 tb_6 ai_21 (i_in (by omega) (by omega)) (i_lo _) (i_hi _) (Or.inr (by decide)) dX0_lessenNeed_33 (fun H locs σ_14 eσ_14 hB hS => ?_)
    have k_15 : σ_14 b_6 i_1.toNatClampNeg = x_13 := by rw [eσ_14]; exact up2_same _ _ _ _
    obtain ⟨x_16, ex_16⟩ : ∃ y : Int32, y = i_1 + 1 := ⟨_, rfl⟩
    have vx_16 := b_add (rfl : i_1.toInt = _) (by decide : (1 : Int32).toInt = 1) ex_16 (by omega) (by omega)
    refine lv_iinc (v := x_16) (lv' := [(3, .int x_16), (0, .ref h0), (1, .ref h1), (2, .int p2)]) hx hb dX0_lessenNeed_34 hl (k := 0) rfl (by rw [ex_16]; rfl) (by decide) rfl (fun ls hl => ?_)
    refine lv_goto (tgt := 2) hx hb dX0_lessenNeed_37 (by decide) ?_
    exact ih_4 ⟨x_16, σ_14, ρ_3⟩ _ _ _ ⟨(by omega), (by omega), hB, hS, lv_sub hl [0, 1, 2, 3] rfl⟩ (by show (5 - x_16.toInt).toNat < (5 - i_1.toInt).toNat; omega)
theorem mw_1_176 : (.fieldLink RX0 66 "HillBends$Hill" "sorts" "I" : Cond) ∈ wsA := wsA_t (List.mem_append_left _ (List.mem_of_getElem? (l := tables_1_1) (i := 176) rfl)) rfl
theorem mw_1_143 : (.fieldLink RX0 69 "HillBends$Hill" "price" "[I" : Cond) ∈ wsA := wsA_t (List.mem_append_left _ (List.mem_of_getElem? (l := tables_1_1) (i := 143) rfl)) rfl
theorem dX0_priceOfNeed_0 : decode cX0_priceOfNeed 0 = .ok (.iconst 0, 1) := by decide +kernel
theorem dX0_priceOfNeed_1 : decode cX0_priceOfNeed 1 = .ok (.istore_n 2, 1) := by decide +kernel
theorem dX0_priceOfNeed_2 : decode cX0_priceOfNeed 2 = .ok (.iconst 0, 1) := by decide +kernel
theorem dX0_priceOfNeed_3 : decode cX0_priceOfNeed 3 = .ok (.istore_n 3, 1) := by decide +kernel
theorem dX0_priceOfNeed_4 : decode cX0_priceOfNeed 4 = .ok (.iload_n 3, 1) := by decide +kernel
theorem dX0_priceOfNeed_5 : decode cX0_priceOfNeed 5 = .ok (.aload_n 1, 1) := by decide +kernel
theorem dX0_priceOfNeed_6 : decode cX0_priceOfNeed 6 = .ok (.getfield 66, 3) := by decide +kernel
theorem dX0_priceOfNeed_9 : decode cX0_priceOfNeed 9 = .ok (.if_icmp .ge 25, 3) := by decide +kernel
theorem dX0_priceOfNeed_34 : decode cX0_priceOfNeed 34 = .ok (.iload_n 2, 1) := by decide +kernel
theorem dX0_priceOfNeed_35 : decode cX0_priceOfNeed 35 = .ok (.ireturn, 1) := by decide +kernel
theorem dX0_priceOfNeed_12 : decode cX0_priceOfNeed 12 = .ok (.iload_n 2, 1) := by decide +kernel
theorem dX0_priceOfNeed_13 : decode cX0_priceOfNeed 13 = .ok (.aload_n 0, 1) := by decide +kernel
theorem dX0_priceOfNeed_14 : decode cX0_priceOfNeed 14 = .ok (.getfield 15, 3) := by decide +kernel
theorem dX0_priceOfNeed_17 : decode cX0_priceOfNeed 17 = .ok (.iload_n 3, 1) := by decide +kernel
theorem dX0_priceOfNeed_18 : decode cX0_priceOfNeed 18 = .ok (.iaload, 1) := by decide +kernel
theorem dX0_priceOfNeed_19 : decode cX0_priceOfNeed 19 = .ok (.aload_n 1, 1) := by decide +kernel
theorem dX0_priceOfNeed_20 : decode cX0_priceOfNeed 20 = .ok (.getfield 69, 3) := by decide +kernel
theorem dX0_priceOfNeed_23 : decode cX0_priceOfNeed 23 = .ok (.iload_n 3, 1) := by decide +kernel
theorem dX0_priceOfNeed_24 : decode cX0_priceOfNeed 24 = .ok (.iaload, 1) := by decide +kernel
theorem dX0_priceOfNeed_25 : decode cX0_priceOfNeed 25 = .ok (.imul, 1) := by decide +kernel
theorem dX0_priceOfNeed_26 : decode cX0_priceOfNeed 26 = .ok (.iadd, 1) := by decide +kernel
theorem dX0_priceOfNeed_27 : decode cX0_priceOfNeed 27 = .ok (.istore_n 2, 1) := by decide +kernel
theorem dX0_priceOfNeed_28 : decode cX0_priceOfNeed 28 = .ok (.iinc 3 1, 3) := by decide +kernel
theorem dX0_priceOfNeed_31 : decode cX0_priceOfNeed 31 = .ok (.goto (-27), 3) := by decide +kernel
set_option maxHeartbeats 4000000 in
set_option maxRecDepth 100000 in
theorem cy_X0_priceOfNeed (l : Launch) (D : va_G) (cA : Nat → ClassId) (L : List Nat) (T : Nat → Nat) (r : Rg) (hG : GR L T r) (hL : L.Nodup) (σ : Sg) (ρ : Lg) (hW : WT L ry T σ) (sz : Nat) (h0 : Nat) (mh0 : h0 ∈ L) (th0 : T h0 = 0) (h1 : Nat) (mh1 : h1 ∈ L) (th1 : T h1 = 3) : Met l yX0_priceOfNeed (.code yX0_priceOfNeed cX0_priceOfNeed 4 (some .int) :: wsA) ({ frames := 0, cells := 0, slots := 0, locals := 0 }) (PR D cA L T r σ ρ sz [.ref h0, .ref h1]) (QI D cA L T r ry ([] : List (Nat × Nat)) σ sz (fun x σ1 => True)) 0 0 (dm L sz) := by
  refine Met.ofW (cc := cX0_priceOfNeed) (maxL := 4) (ret := (some .int)) (by decide) rfl ?_
  intro p e s m args below meth c s₁ B hml hv
  obtain ⟨rfl, hsz, hP, hK, hN⟩ := hv
  have hx := B.exec
  have hb := B.bytes
  have hr := B.returns
  have hts : ∀ w ∈ wsA, w.before _ s = true := fun w h => atoms_spec (ws := .code yX0_priceOfNeed cX0_priceOfNeed 4 (some .int) :: wsA) B.pre w (List.mem_cons_of_mem _ h)
  have hown : s.vm.findClass RX0 = some m.cls := findClass_of_methodNamed B.named
  subst hsz
  have hLA : LA (dm L s.heap.size) L := ⟨hL, fun a h => Or.inl h⟩
  have hA : ∀ q : Nat, s.heap.size ≤ q → dm L s.heap.size q := fun q h => Or.inr h
  have hS : va_S (dm L s.heap.size) s.heap s.heap [] := va_S.rf
  have hB : TS D cA L T r ry ([] : List (Nat × Nat)) σ σ ρ s.heap := ⟨hP, hW, FR.rf⟩
  have hl := lv_entry ([.ref h0, .ref h1]) (n := 4) (Nat.le_of_ble_eq_true rfl)
  rw [lg_entry_eq]
  generalize (lg_sl ([.ref h0, .ref h1]) ++ List.replicate (4 - (lg_sl ([.ref h0, .ref h1])).length) Slot.unset).toArray = ls at hl ⊢
  have hl : lv_has ls 4 [(0, .ref h0), (1, .ref h1)] := hl
  refine lv_iconst (v := 0) hx hb dX0_priceOfNeed_0 (by decide) ?_
  refine lv_istore_n (lv' := [(2, .int 0), (0, .ref h0), (1, .ref h1)]) hx hb dX0_priceOfNeed_1 rfl hl (by decide) rfl (fun ls hl => ?_)
  refine lv_iconst (v := 0) hx hb dX0_priceOfNeed_2 (by decide) ?_
  refine lv_istore_n (lv' := [(3, .int 0), (2, .int 0), (0, .ref h0), (1, .ref h1)]) hx hb dX0_priceOfNeed_3 rfl hl (by decide) rfl (fun ls hl => ?_)
  refine w_loop (α := Int32 × Int32 × Sg × Lg) (fun (i_1, i_2, σ_3, ρ_4) H locs ls => 0 ≤ i_2.toInt ∧ i_2.toInt ≤ 5 ∧ TS D cA L T r ry ([] : List (Nat × Nat)) σ σ_3 ρ_4 H ∧ va_S (dm L s.heap.size) s.heap H locs ∧ lv_has ls 4 [(3, .int i_2), (2, .int i_1), (0, .ref h0), (1, .ref h1)]) (fun (i_1, i_2, σ_3, ρ_4) => (5 - i_2.toInt).toNat) ?_ ⟨0, 0, σ, ρ⟩ ⟨(by decide), (by decide), hB, hS, lv_sub hl [0, 1, 2, 3] rfl⟩
  rintro ⟨i_1, i_2, σ_3, ρ_4⟩ H locs ls ⟨li_2, ui_2, hB, hS, hl⟩ ih_5
  refine lv_iload_n hx hb dX0_priceOfNeed_4 rfl (lv_at hl 0 rfl) ?_
  refine lv_aload_n hx hb dX0_priceOfNeed_5 rfl (lv_at hl 3 rfl) ?_
  refine t_gi hx hb hts hown hK hB mh1 th1 fi_3_8 rfl mw_1_176 dX0_priceOfNeed_6 (fun x_6 ex_6 lx_6 ux_6 => ?_)
  refine lv_icmp_ge (tgt := 34) hx hb dX0_priceOfNeed_9 (by decide) (fun c_7 => ?_) (fun c_7 => ?_)
  · skip
    have uc_7 := j_le c_7
    refine lv_iload_n hx hb dX0_priceOfNeed_34 rfl (lv_at hl 1 rfl) ?_
    exact W.iret (v := i_1) hx hb hr (fun t ht hW => ⟨⟨i_1, (σ_3, ρ_4), rfl, ⟨hB.2.1, hB.2.2, trivial⟩, (show TP D cA L T r σ_3 ρ_4 t.heap from by rw [ht]; exact hB.1)⟩, hS.F ht⟩) hS.2.2 dX0_priceOfNeed_35
  · skip
    have uc_7 := j_nle c_7
    refine lv_iload_n hx hb dX0_priceOfNeed_12 rfl (lv_at hl 1 rfl) ?_
    refine lv_aload_n hx hb dX0_priceOfNeed_13 rfl (lv_at hl 2 rfl) ?_
    refine t_gr hx hb hts hown hK hG hB mh0 th0 fq_0_1 rfl mw_2_97 dX0_priceOfNeed_14 (fun b_8 hb_8 mb_8 tb_8 => ?_)
    refine lv_iload_n hx hb dX0_priceOfNeed_17 rfl (lv_at hl 0 rfl) ?_
    refine t_ai hx hb hK hB mb_8 tb_8 ai_21 (fun _ => rfl) (i_in (by omega) (by omega)) dX0_priceOfNeed_18 (fun x_9 ex_9 lx_9 ux_9 => ?_)
    refine lv_aload_n hx hb dX0_priceOfNeed_19 rfl (lv_at hl 3 rfl) ?_
    refine t_gr hx hb hts hown hK hG hB mh1 th1 fq_3_2 rfl mw_1_143 dX0_priceOfNeed_20 (fun b_10 hb_10 mb_10 tb_10 => ?_)
    refine lv_iload_n hx hb dX0_priceOfNeed_23 rfl (lv_at hl 0 rfl) ?_
    refine t_ai hx hb hK hB mb_10 tb_10 ai_35 (fun _ => rfl) (i_in (by omega) (by omega)) dX0_priceOfNeed_24 (fun x_11 ex_11 lx_11 ux_11 => ?_)
    refine lv_imul hx hb dX0_priceOfNeed_25 ?_
    refine lv_topi (fun x_12 ex_12 => ?_)
    refine lv_iadd hx hb dX0_priceOfNeed_26 ?_
    refine lv_topi (fun x_13 ex_13 => ?_)
    refine lv_istore_n (lv' := [(2, .int x_13), (3, .int i_2), (0, .ref h0), (1, .ref h1)]) hx hb dX0_priceOfNeed_27 rfl hl (by decide) rfl (fun ls hl => ?_)
    obtain ⟨x_14, ex_14⟩ : ∃ y : Int32, y = i_2 + 1 := ⟨_, rfl⟩
    have vx_14 := b_add (rfl : i_2.toInt = _) (by decide : (1 : Int32).toInt = 1) ex_14 (by omega) (by omega)
    refine lv_iinc (v := x_14) (lv' := [(3, .int x_14), (2, .int x_13), (0, .ref h0), (1, .ref h1)]) hx hb dX0_priceOfNeed_28 hl (k := 1) rfl (by rw [ex_14]; rfl) (by decide) rfl (fun ls hl => ?_)
    refine lv_goto (tgt := 4) hx hb dX0_priceOfNeed_31 (by decide) ?_
    exact ih_5 ⟨x_13, x_14, σ_3, ρ_4⟩ _ _ _ ⟨(by omega), (by omega), hB, hS, lv_sub hl [0, 1, 2, 3] rfl⟩ (by show (5 - x_14.toInt).toNat < (5 - i_2.toInt).toNat; omega)
theorem mw_4_221 : (.instanceMethod yX0_stockUp : Cond) ∈ wsA := wsA_t (List.mem_append_right _ (List.mem_append_right _ (List.mem_append_right _ (List.mem_append_left _ (List.mem_of_getElem? (l := tables_1_4) (i := 221) rfl))))) rfl
theorem mp_2_14 : (.selects RX0 yX0_stockUp yX0_stockUp : Cond) ∈ wsA := wsA_p (q := (yX0_stockUp, 6)) (List.mem_append_right _ (List.mem_append_left _ (List.mem_of_getElem? (l := lw_privs_2) (i := 14) rfl)))
theorem mw_1_9 : (.initialized RX0 : Cond) ∈ wsA := wsA_t (List.mem_append_left _ (List.mem_of_getElem? (l := tables_1_1) (i := 9) rfl)) rfl
theorem mw_4_222 : (.code yX0_stockUp cX0_stockUp 4 none : Cond) ∈ wsA := wsA_t (List.mem_append_right _ (List.mem_append_right _ (List.mem_append_right _ (List.mem_append_left _ (List.mem_of_getElem? (l := tables_1_4) (i := 222) rfl))))) rfl
theorem mw_4_219 : (.methodLink RX0 29 yX0_stockUp : Cond) ∈ wsA := wsA_t (List.mem_append_right _ (List.mem_append_right _ (List.mem_append_right _ (List.mem_append_left _ (List.mem_of_getElem? (l := tables_1_4) (i := 219) rfl))))) rfl
theorem mw_1_81 : (.fieldLink RX0 33 "HillBends$Scene" "height" "[I" : Cond) ∈ wsA := wsA_t (List.mem_append_left _ (List.mem_of_getElem? (l := tables_1_1) (i := 81) rfl)) rfl
theorem mw_1_180 : (.fieldLink RX0 36 "HillBends$Hill" "bends" "I" : Cond) ∈ wsA := wsA_t (List.mem_append_left _ (List.mem_of_getElem? (l := tables_1_1) (i := 180) rfl)) rfl
theorem mw_1_107 : (.fieldLink RX0 42 "HillBends$Scene" "seconds" "I" : Cond) ∈ wsA := wsA_t (List.mem_append_left _ (List.mem_of_getElem? (l := tables_1_1) (i := 107) rfl)) rfl
theorem mw_4_223 : (.methodLink RX0 45 yX3_askedAt : Cond) ∈ wsA := wsA_t (List.mem_append_right _ (List.mem_append_right _ (List.mem_append_right _ (List.mem_append_left _ (List.mem_of_getElem? (l := tables_1_4) (i := 223) rfl))))) rfl
theorem dX0_reached_0 : decode cX0_reached 0 = .ok (.aload_n 0, 1) := by decide +kernel
theorem dX0_reached_1 : decode cX0_reached 1 = .ok (.aload_n 2, 1) := by decide +kernel
theorem dX0_reached_2 : decode cX0_reached 2 = .ok (.iload_n 3, 1) := by decide +kernel
theorem dX0_reached_3 : decode cX0_reached 3 = .ok (.invokevirtual 29, 3) := by decide +kernel
theorem dX0_reached_6 : decode cX0_reached 6 = .ok (.aload_n 2, 1) := by decide +kernel
theorem dX0_reached_7 : decode cX0_reached 7 = .ok (.getfield 33, 3) := by decide +kernel
theorem dX0_reached_10 : decode cX0_reached 10 = .ok (.iload_n 3, 1) := by decide +kernel
theorem dX0_reached_11 : decode cX0_reached 11 = .ok (.iaload, 1) := by decide +kernel
theorem dX0_reached_12 : decode cX0_reached 12 = .ok (.istore 4, 2) := by decide +kernel
theorem dX0_reached_14 : decode cX0_reached 14 = .ok (.iload 4, 2) := by decide +kernel
theorem dX0_reached_16 : decode cX0_reached 16 = .ok (.aload_n 1, 1) := by decide +kernel
theorem dX0_reached_17 : decode cX0_reached 17 = .ok (.getfield 36, 3) := by decide +kernel
theorem dX0_reached_20 : decode cX0_reached 20 = .ok (.if_icmp .ge 46, 3) := by decide +kernel
theorem dX0_reached_66 : decode cX0_reached 66 = .ok (.iload 4, 2) := by decide +kernel
theorem dX0_reached_68 : decode cX0_reached 68 = .ok (.ireturn, 1) := by decide +kernel
theorem dX0_reached_23 : decode cX0_reached 23 = .ok (.aload_n 0, 1) := by decide +kernel
theorem dX0_reached_24 : decode cX0_reached 24 = .ok (.getfield 9, 3) := by decide +kernel
theorem dX0_reached_27 : decode cX0_reached 27 = .ok (.aload_n 1, 1) := by decide +kernel
theorem dX0_reached_28 : decode cX0_reached 28 = .ok (.iload 4, 2) := by decide +kernel
theorem dX0_reached_30 : decode cX0_reached 30 = .ok (.aload_n 2, 1) := by decide +kernel
theorem dX0_reached_31 : decode cX0_reached 31 = .ok (.getfield 42, 3) := by decide +kernel
theorem dX0_reached_34 : decode cX0_reached 34 = .ok (.invokevirtual 45, 3) := by decide +kernel
theorem dX0_reached_37 : decode cX0_reached 37 = .ok (.iaload, 1) := by decide +kernel
theorem dX0_reached_38 : decode cX0_reached 38 = .ok (.ifCond .le 28, 3) := by decide +kernel
theorem dX0_reached_41 : decode cX0_reached 41 = .ok (.aload_n 0, 1) := by decide +kernel
theorem dX0_reached_42 : decode cX0_reached 42 = .ok (.getfield 9, 3) := by decide +kernel
theorem dX0_reached_45 : decode cX0_reached 45 = .ok (.aload_n 1, 1) := by decide +kernel
theorem dX0_reached_46 : decode cX0_reached 46 = .ok (.iload 4, 2) := by decide +kernel
theorem dX0_reached_48 : decode cX0_reached 48 = .ok (.aload_n 2, 1) := by decide +kernel
theorem dX0_reached_49 : decode cX0_reached 49 = .ok (.getfield 42, 3) := by decide +kernel
theorem dX0_reached_52 : decode cX0_reached 52 = .ok (.invokevirtual 45, 3) := by decide +kernel
theorem dX0_reached_55 : decode cX0_reached 55 = .ok (.dup2, 1) := by decide +kernel
theorem dX0_reached_56 : decode cX0_reached 56 = .ok (.iaload, 1) := by decide +kernel
theorem dX0_reached_57 : decode cX0_reached 57 = .ok (.iconst 1, 1) := by decide +kernel
theorem dX0_reached_58 : decode cX0_reached 58 = .ok (.isub, 1) := by decide +kernel
theorem dX0_reached_59 : decode cX0_reached 59 = .ok (.iastore, 1) := by decide +kernel
theorem dX0_reached_60 : decode cX0_reached 60 = .ok (.iinc 4 1, 3) := by decide +kernel
theorem dX0_reached_63 : decode cX0_reached 63 = .ok (.goto (-49), 3) := by decide +kernel
theorem mv_X0_stockUp : MV RX0 yX0_stockUp cX0_stockUp 4 none 2 := ⟨mw_4_221, mp_2_14, mw_1_9, mw_4_222, ⟨rfl, by decide, by decide, by decide +kernel⟩⟩
set_option maxHeartbeats 4000000 in
set_option maxRecDepth 100000 in
theorem cy_X0_reached (l : Launch) (D : va_G) (cA : Nat → ClassId) (L : List Nat) (T : Nat → Nat) (r : Rg) (hG : GR L T r) (hL : L.Nodup) (σ : Sg) (ρ : Lg) (hW : WT L ry T σ) (sz : Nat) (h0 : Nat) (mh0 : h0 ∈ L) (th0 : T h0 = 0) (h1 : Nat) (mh1 : h1 ∈ L) (th1 : T h1 = 3) (h2 : Nat) (mh2 : h2 ∈ L) (th2 : T h2 = 8) (p3 : Int32) (w0 : 0 ≤ p3.toInt) (w1 : p3.toInt ≤ 3) : Met l yX0_reached (.code yX0_reached cX0_reached 5 (some .int) :: wsA) ({ frames := 1, cells := 0, slots := 0, locals := 23 }) (PR D cA L T r σ ρ sz [.ref h0, .ref h1, .ref h2, .int p3]) (QI D cA L T r ry [(20, 1000)] σ sz (fun x σ1 => True)) 0 0 (dm L sz) := by
  refine Met.ofW (cc := cX0_reached) (maxL := 5) (ret := (some .int)) (by decide) rfl ?_
  intro p e s m args below meth c s₁ B hml hv
  obtain ⟨rfl, hsz, hP, hK, hN⟩ := hv
  have hx := B.exec
  have hb := B.bytes
  have hr := B.returns
  have hts : ∀ w ∈ wsA, w.before _ s = true := fun w h => atoms_spec (ws := .code yX0_reached cX0_reached 5 (some .int) :: wsA) B.pre w (List.mem_cons_of_mem _ h)
  have hown : s.vm.findClass RX0 = some m.cls := findClass_of_methodNamed B.named
  subst hsz
  have hLA : LA (dm L s.heap.size) L := ⟨hL, fun a h => Or.inl h⟩
  have hA : ∀ q : Nat, s.heap.size ≤ q → dm L s.heap.size q := fun q h => Or.inr h
  have hS : va_S (dm L s.heap.size) s.heap s.heap [] := va_S.rf
  have hB : TS D cA L T r ry [(20, 1000)] σ σ ρ s.heap := ⟨hP, hW, FR.rf⟩
  have hl := lv_entry ([.ref h0, .ref h1, .ref h2, .int p3]) (n := 5) (Nat.le_of_ble_eq_true rfl)
  rw [lg_entry_eq]
  generalize (lg_sl ([.ref h0, .ref h1, .ref h2, .int p3]) ++ List.replicate (5 - (lg_sl ([.ref h0, .ref h1, .ref h2, .int p3])).length) Slot.unset).toArray = ls at hl ⊢
  have hl : lv_has ls 5 [(0, .ref h0), (1, .ref h1), (2, .ref h2), (3, .int p3)] := hl
  refine lv_aload_n hx hb dX0_reached_0 rfl (lv_at hl 0 rfl) ?_
  refine lv_aload_n hx hb dX0_reached_1 rfl (lv_at hl 2 rfl) ?_
  refine lv_iload_n hx hb dX0_reached_2 rfl (lv_at hl 3 rfl) ?_
  refine t_cv (va_runV (As := [.ref h2, .int p3]) (rest := []) ⟨hx, hb, hml, hown, hts⟩ (cy_X0_stockUp l D cA L T r hG hLA.1 σ ρ hB.2.1 _ h0 mh0 th0 h2 mh2 th2 p3 (by first | omega | decide) (by first | omega | decide)) (cV hts mv_X0_stockUp mw_4_219 rfl rfl ⟨Nat.le_of_ble_eq_true rfl, Nat.le_of_ble_eq_true rfl⟩) (pV hB.1 hK hN mh0 th0 (show shp cA 0 _ _ _ = .inr (0, Fs0 _ _ _) from rfl) rfl) rfl rfl hl.1 rfl (lv_room (Nat.le_of_ble_eq_true rfl)) dX0_reached_3 ⟨Nat.le_of_ble_eq_true rfl, Nat.le_of_ble_eq_true rfl⟩) hLA hA hB hS (by decide) (fun σ_1 ρ_2 H locs hB fσ_1 pσ_1 hS => ?_)
  refine lv_aload_n hx hb dX0_reached_6 rfl (lv_at hl 2 rfl) ?_
  refine t_gr hx hb hts hown hK hG hB mh2 th2 fq_8_0 rfl mw_1_81 dX0_reached_7 (fun b_4 hb_4 mb_4 tb_4 => ?_)
  refine lv_iload_n hx hb dX0_reached_10 rfl (lv_at hl 3 rfl) ?_
  refine t_ai hx hb hK hB mb_4 tb_4 ai_45 (fun _ => rfl) (i_in (by omega) (by omega)) dX0_reached_11 (fun x_5 ex_5 lx_5 ux_5 => ?_)
  refine lv_istore (lv' := [(4, .int x_5), (0, .ref h0), (1, .ref h1), (2, .ref h2), (3, .int p3)]) hx hb dX0_reached_12 hl (by decide) rfl (fun ls hl => ?_)
  refine w_loop (α := Int32 × Sg × Lg) (fun (i_6, σ_7, ρ_8) H locs ls => 0 ≤ i_6.toInt ∧ i_6.toInt ≤ 8 ∧ TS D cA L T r ry [(20, 1000)] σ σ_7 ρ_8 H ∧ va_S (dm L s.heap.size) s.heap H locs ∧ lv_has ls 5 [(4, .int i_6), (0, .ref h0), (1, .ref h1), (2, .ref h2), (3, .int p3)]) (fun (i_6, σ_7, ρ_8) => (8 - i_6.toInt).toNat) ?_ ⟨x_5, σ_1, ρ_2⟩ ⟨(by omega), (by omega), hB, hS, lv_sub hl [0, 1, 2, 3, 4] rfl⟩
  rintro ⟨i_6, σ_7, ρ_8⟩ H locs ls ⟨li_6, ui_6, hB, hS, hl⟩ ih_9
  refine lv_iload hx hb dX0_reached_14 (lv_at hl 0 rfl) ?_
  refine lv_aload_n hx hb dX0_reached_16 rfl (lv_at hl 2 rfl) ?_
  refine t_gi hx hb hts hown hK hB mh1 th1 fi_3_9 rfl mw_1_180 dX0_reached_17 (fun x_10 ex_10 lx_10 ux_10 => ?_)
  refine lv_icmp_ge (tgt := 66) hx hb dX0_reached_20 (by decide) (fun c_11 => ?_) (fun c_11 => ?_)
  · skip
    have uc_11 := j_le c_11
    refine lv_iload hx hb dX0_reached_66 (lv_at hl 0 rfl) ?_
    exact W.iret (v := i_6) hx hb hr (fun t ht hW => ⟨⟨i_6, (σ_7, ρ_8), rfl, ⟨hB.2.1, hB.2.2, trivial⟩, (show TP D cA L T r σ_7 ρ_8 t.heap from by rw [ht]; exact hB.1)⟩, hS.F ht⟩) hS.2.2 dX0_reached_68
  · skip
    have uc_11 := j_nle c_11
    refine lv_aload_n hx hb dX0_reached_23 rfl (lv_at hl 1 rfl) ?_
    refine t_gr hx hb hts hown hK hG hB mh0 th0 fq_0_0 rfl mw_2_95 dX0_reached_24 (fun b_12 hb_12 mb_12 tb_12 => ?_)
    refine lv_aload_n hx hb dX0_reached_27 rfl (lv_at hl 2 rfl) ?_
    refine lv_iload hx hb dX0_reached_28 (lv_at hl 0 rfl) ?_
    refine lv_aload_n hx hb dX0_reached_30 rfl (lv_at hl 3 rfl) ?_
    refine t_gi hx hb hts hown hK hB mh2 th2 fi_8_6 rfl mw_1_107 dX0_reached_31 (fun x_13 ex_13 lx_13 ux_13 => ?_)
    refine t_ci (va_runV (As := [.int i_6, .int x_13]) (rest := [.ref b_12]) ⟨hx, hb, hml, hown, hts⟩ (cy_X3_askedAt l D cA L T r hG hLA.1 σ_7 ρ_8 hB.2.1 _ h1 mh1 th1 i_6 x_13 (by first | omega | decide) (by first | omega | decide)) (cV hts mv_X3_askedAt mw_4_223 rfl rfl ⟨Nat.le_of_ble_eq_true rfl, Nat.le_of_ble_eq_true rfl⟩) (pV hB.1 hK hN mh1 th1 (show shp cA 3 _ _ _ = .inr (3, Fs3 _ _ _) from rfl) rfl) rfl rfl hl.1 rfl (lv_room (Nat.le_of_ble_eq_true rfl)) dX0_reached_34 ⟨Nat.le_of_ble_eq_true rfl, Nat.le_of_ble_eq_true rfl⟩) hLA hA hB hS (by decide) (fun x_16 σ_14 ρ_15 H locs hB fσ_14 pσ_14 hS => ?_)
    have qσ_14 := FR.nil fσ_14
    subst qσ_14
    obtain ⟨lx_16, ux_16⟩ := pσ_14
    refine t_ai hx hb hK hB mb_12 tb_12 ai_20 (fun _ => rfl) (i_in (by omega) (by omega)) dX0_reached_37 (fun x_17 ex_17 lx_17 ux_17 => ?_)
    refine lv_if_le (tgt := 66) hx hb dX0_reached_38 (by decide) (fun c_18 => ?_) (fun c_18 => ?_)
    · skip
      have uc_18 := i_le (n := 0) (by decide) c_18
      refine lv_iload hx hb dX0_reached_66 (lv_at hl 0 rfl) ?_
      exact W.iret (v := i_6) hx hb hr (fun t ht hW => ⟨⟨i_6, (σ_7, ρ_15), rfl, ⟨hB.2.1, hB.2.2, trivial⟩, (show TP D cA L T r σ_7 ρ_15 t.heap from by rw [ht]; exact hB.1)⟩, hS.F ht⟩) hS.2.2 dX0_reached_68
    · skip
      have uc_18 := i_nle (n := 0) (by decide) c_18
      refine lv_aload_n hx hb dX0_reached_41 rfl (lv_at hl 1 rfl) ?_
      refine t_gk hx hb hts hown hK hB mh0 th0 fq_0_0 hb_12 mw_2_95 dX0_reached_42 ?_
      refine lv_aload_n hx hb dX0_reached_45 rfl (lv_at hl 2 rfl) ?_
      refine lv_iload hx hb dX0_reached_46 (lv_at hl 0 rfl) ?_
      refine lv_aload_n hx hb dX0_reached_48 rfl (lv_at hl 3 rfl) ?_
      refine t_gv hx hb hts hown hK hB mh2 th2 fi_8_6 ex_13.symm mw_1_107 dX0_reached_49 ?_
      refine t_ci (va_runV (As := [.int i_6, .int x_13]) (rest := [.ref b_12]) ⟨hx, hb, hml, hown, hts⟩ (cy_X3_askedAt l D cA L T r hG hLA.1 σ_7 ρ_15 hB.2.1 _ h1 mh1 th1 i_6 x_13 (by first | omega | decide) (by first | omega | decide)) (cV hts mv_X3_askedAt mw_4_223 rfl rfl ⟨Nat.le_of_ble_eq_true rfl, Nat.le_of_ble_eq_true rfl⟩) (pV hB.1 hK hN mh1 th1 (show shp cA 3 _ _ _ = .inr (3, Fs3 _ _ _) from rfl) rfl) rfl rfl hl.1 rfl (lv_room (Nat.le_of_ble_eq_true rfl)) dX0_reached_52 ⟨Nat.le_of_ble_eq_true rfl, Nat.le_of_ble_eq_true rfl⟩) hLA hA hB hS (by decide) (fun x_21 σ_19 ρ_20 H locs hB fσ_19 pσ_19 hS => ?_)
      have qσ_19 := FR.nil fσ_19
      subst qσ_19
      obtain ⟨lx_21, ux_21⟩ := pσ_19
      refine lv_dup2_11 hx hb dX0_reached_55 rfl rfl ?_
      refine t_ai hx hb hK hB mb_12 tb_12 ai_20 (fun _ => rfl) (i_in (by omega) (by omega)) dX0_reached_56 (fun x_22 ex_22 lx_22 ux_22 => ?_)
      refine lv_iconst (v := 1) hx hb dX0_reached_57 (by decide) ?_
      refine lv_isub hx hb dX0_reached_58 ?_
      refine lv_topi (fun x_23 ex_23 => ?_)
      refine t_si hx hb hK hLA hB hS mb_12 tb_12 ai_20 (i_in (by omega) (by omega)) (i_lo _) (i_hi _) (Or.inr (by decide)) dX0_reached_59 (fun H locs σ_24 eσ_24 hB hS => ?_)
      have k_25 : σ_24 b_12 x_21.toNatClampNeg = x_23 := by rw [eσ_24]; exact up2_same _ _ _ _
      obtain ⟨x_26, ex_26⟩ : ∃ y : Int32, y = i_6 + 1 := ⟨_, rfl⟩
      have vx_26 := b_add (rfl : i_6.toInt = _) (by decide : (1 : Int32).toInt = 1) ex_26 (by omega) (by omega)
      refine lv_iinc (v := x_26) (lv' := [(4, .int x_26), (0, .ref h0), (1, .ref h1), (2, .ref h2), (3, .int p3)]) hx hb dX0_reached_60 hl (k := 0) rfl (by rw [ex_26]; rfl) (by decide) rfl (fun ls hl => ?_)
      refine lv_goto (tgt := 14) hx hb dX0_reached_63 (by decide) ?_
      exact ih_9 ⟨x_26, σ_24, ρ_20⟩ _ _ _ ⟨(by omega), (by omega), hB, hS, lv_sub hl [0, 1, 2, 3, 4] rfl⟩ (by show (8 - x_26.toInt).toNat < (8 - i_6.toInt).toNat; omega)
theorem mw_4_234 : (.instanceMethod yX0_clearNeed : Cond) ∈ wsA := wsA_t (List.mem_append_right _ (List.mem_append_right _ (List.mem_append_right _ (List.mem_append_left _ (List.mem_of_getElem? (l := tables_1_4) (i := 234) rfl))))) rfl
theorem mp_2_15 : (.selects RX0 yX0_clearNeed yX0_clearNeed : Cond) ∈ wsA := wsA_p (q := (yX0_clearNeed, 6)) (List.mem_append_right _ (List.mem_append_left _ (List.mem_of_getElem? (l := lw_privs_2) (i := 15) rfl)))
theorem mw_4_235 : (.code yX0_clearNeed cX0_clearNeed 2 none : Cond) ∈ wsA := wsA_t (List.mem_append_right _ (List.mem_append_right _ (List.mem_append_right _ (List.mem_append_left _ (List.mem_of_getElem? (l := tables_1_4) (i := 235) rfl))))) rfl
theorem mw_4_232 : (.methodLink RX0 49 yX0_clearNeed : Cond) ∈ wsA := wsA_t (List.mem_append_right _ (List.mem_append_right _ (List.mem_append_right _ (List.mem_append_left _ (List.mem_of_getElem? (l := tables_1_4) (i := 232) rfl))))) rfl
theorem mw_4_238 : (.instanceMethod yX0_lessenNeed : Cond) ∈ wsA := wsA_t (List.mem_append_right _ (List.mem_append_right _ (List.mem_append_right _ (List.mem_append_left _ (List.mem_of_getElem? (l := tables_1_4) (i := 238) rfl))))) rfl
theorem mp_3_0 : (.selects RX0 yX0_lessenNeed yX0_lessenNeed : Cond) ∈ wsA := wsA_p (q := (yX0_lessenNeed, 6)) (List.mem_append_right _ (List.mem_append_right _ (List.mem_append_left _ (List.mem_of_getElem? (l := lw_privs_3) (i := 0) rfl))))
theorem mw_4_239 : (.code yX0_lessenNeed cX0_lessenNeed 4 none : Cond) ∈ wsA := wsA_t (List.mem_append_right _ (List.mem_append_right _ (List.mem_append_right _ (List.mem_append_left _ (List.mem_of_getElem? (l := tables_1_4) (i := 239) rfl))))) rfl
theorem mw_4_236 : (.methodLink RX0 52 yX0_lessenNeed : Cond) ∈ wsA := wsA_t (List.mem_append_right _ (List.mem_append_right _ (List.mem_append_right _ (List.mem_append_left _ (List.mem_of_getElem? (l := tables_1_4) (i := 236) rfl))))) rfl
theorem dX0_lackNow_0 : decode cX0_lackNow 0 = .ok (.aload_n 0, 1) := by decide +kernel
theorem dX0_lackNow_1 : decode cX0_lackNow 1 = .ok (.invokevirtual 49, 3) := by decide +kernel
theorem dX0_lackNow_4 : decode cX0_lackNow 4 = .ok (.aload_n 2, 1) := by decide +kernel
theorem dX0_lackNow_5 : decode cX0_lackNow 5 = .ok (.getfield 33, 3) := by decide +kernel
theorem dX0_lackNow_8 : decode cX0_lackNow 8 = .ok (.iload_n 3, 1) := by decide +kernel
theorem dX0_lackNow_9 : decode cX0_lackNow 9 = .ok (.iaload, 1) := by decide +kernel
theorem dX0_lackNow_10 : decode cX0_lackNow 10 = .ok (.istore 4, 2) := by decide +kernel
theorem dX0_lackNow_12 : decode cX0_lackNow 12 = .ok (.iload 4, 2) := by decide +kernel
theorem dX0_lackNow_14 : decode cX0_lackNow 14 = .ok (.aload_n 1, 1) := by decide +kernel
theorem dX0_lackNow_15 : decode cX0_lackNow 15 = .ok (.getfield 36, 3) := by decide +kernel
theorem dX0_lackNow_18 : decode cX0_lackNow 18 = .ok (.if_icmp .ge 28, 3) := by decide +kernel
theorem dX0_lackNow_46 : decode cX0_lackNow 46 = .ok (.aload_n 0, 1) := by decide +kernel
theorem dX0_lackNow_47 : decode cX0_lackNow 47 = .ok (.aload_n 2, 1) := by decide +kernel
theorem dX0_lackNow_48 : decode cX0_lackNow 48 = .ok (.iload_n 3, 1) := by decide +kernel
theorem dX0_lackNow_49 : decode cX0_lackNow 49 = .ok (.invokevirtual 52, 3) := by decide +kernel
theorem dX0_lackNow_52 : decode cX0_lackNow 52 = .ok (.return_, 1) := by decide +kernel
theorem dX0_lackNow_21 : decode cX0_lackNow 21 = .ok (.aload_n 0, 1) := by decide +kernel
theorem dX0_lackNow_22 : decode cX0_lackNow 22 = .ok (.getfield 15, 3) := by decide +kernel
theorem dX0_lackNow_25 : decode cX0_lackNow 25 = .ok (.aload_n 1, 1) := by decide +kernel
theorem dX0_lackNow_26 : decode cX0_lackNow 26 = .ok (.iload 4, 2) := by decide +kernel
theorem dX0_lackNow_28 : decode cX0_lackNow 28 = .ok (.aload_n 2, 1) := by decide +kernel
theorem dX0_lackNow_29 : decode cX0_lackNow 29 = .ok (.getfield 42, 3) := by decide +kernel
theorem dX0_lackNow_32 : decode cX0_lackNow 32 = .ok (.invokevirtual 45, 3) := by decide +kernel
theorem dX0_lackNow_35 : decode cX0_lackNow 35 = .ok (.dup2, 1) := by decide +kernel
theorem dX0_lackNow_36 : decode cX0_lackNow 36 = .ok (.iaload, 1) := by decide +kernel
theorem dX0_lackNow_37 : decode cX0_lackNow 37 = .ok (.iconst 1, 1) := by decide +kernel
theorem dX0_lackNow_38 : decode cX0_lackNow 38 = .ok (.iadd, 1) := by decide +kernel
theorem dX0_lackNow_39 : decode cX0_lackNow 39 = .ok (.iastore, 1) := by decide +kernel
theorem dX0_lackNow_40 : decode cX0_lackNow 40 = .ok (.iinc 4 1, 3) := by decide +kernel
theorem dX0_lackNow_43 : decode cX0_lackNow 43 = .ok (.goto (-31), 3) := by decide +kernel
theorem mv_X0_clearNeed : MV RX0 yX0_clearNeed cX0_clearNeed 2 none 0 := ⟨mw_4_234, mp_2_15, mw_1_9, mw_4_235, ⟨rfl, by decide, by decide, by decide +kernel⟩⟩
theorem mv_X0_lessenNeed : MV RX0 yX0_lessenNeed cX0_lessenNeed 4 none 2 := ⟨mw_4_238, mp_3_0, mw_1_9, mw_4_239, ⟨rfl, by decide, by decide, by decide +kernel⟩⟩
set_option maxHeartbeats 4000000 in
set_option maxRecDepth 100000 in
theorem cy_X0_lackNow (l : Launch) (D : va_G) (cA : Nat → ClassId) (L : List Nat) (T : Nat → Nat) (r : Rg) (hG : GR L T r) (hL : L.Nodup) (σ : Sg) (ρ : Lg) (hW : WT L ry T σ) (sz : Nat) (h0 : Nat) (mh0 : h0 ∈ L) (th0 : T h0 = 0) (h1 : Nat) (mh1 : h1 ∈ L) (th1 : T h1 = 3) (h2 : Nat) (mh2 : h2 ∈ L) (th2 : T h2 = 8) (p3 : Int32) (w0 : 0 ≤ p3.toInt) (w1 : p3.toInt ≤ 3) : Met l yX0_lackNow (.code yX0_lackNow cX0_lackNow 5 none :: wsA) ({ frames := 2, cells := 0, slots := 0, locals := 63 }) (PR D cA L T r σ ρ sz [.ref h0, .ref h1, .ref h2, .int p3]) (QV D cA L T r ry [(21, 1000)] σ sz (fun σ1 => True)) 0 0 (dm L sz) := by
  refine Met.ofW (cc := cX0_lackNow) (maxL := 5) (ret := none) (by decide) rfl ?_
  intro p e s m args below meth c s₁ B hml hv
  obtain ⟨rfl, hsz, hP, hK, hN⟩ := hv
  have hx := B.exec
  have hb := B.bytes
  have hr := B.returns
  have hts : ∀ w ∈ wsA, w.before _ s = true := fun w h => atoms_spec (ws := .code yX0_lackNow cX0_lackNow 5 none :: wsA) B.pre w (List.mem_cons_of_mem _ h)
  have hown : s.vm.findClass RX0 = some m.cls := findClass_of_methodNamed B.named
  subst hsz
  have hLA : LA (dm L s.heap.size) L := ⟨hL, fun a h => Or.inl h⟩
  have hA : ∀ q : Nat, s.heap.size ≤ q → dm L s.heap.size q := fun q h => Or.inr h
  have hS : va_S (dm L s.heap.size) s.heap s.heap [] := va_S.rf
  have hB : TS D cA L T r ry [(21, 1000)] σ σ ρ s.heap := ⟨hP, hW, FR.rf⟩
  have hl := lv_entry ([.ref h0, .ref h1, .ref h2, .int p3]) (n := 5) (Nat.le_of_ble_eq_true rfl)
  rw [lg_entry_eq]
  generalize (lg_sl ([.ref h0, .ref h1, .ref h2, .int p3]) ++ List.replicate (5 - (lg_sl ([.ref h0, .ref h1, .ref h2, .int p3])).length) Slot.unset).toArray = ls at hl ⊢
  have hl : lv_has ls 5 [(0, .ref h0), (1, .ref h1), (2, .ref h2), (3, .int p3)] := hl
  refine lv_aload_n hx hb dX0_lackNow_0 rfl (lv_at hl 0 rfl) ?_
  refine t_cv (va_runV (As := []) (rest := []) ⟨hx, hb, hml, hown, hts⟩ (cy_X0_clearNeed l D cA L T r hG hLA.1 σ ρ hB.2.1 _ h0 mh0 th0) (cV hts mv_X0_clearNeed mw_4_232 rfl rfl ⟨Nat.le_of_ble_eq_true rfl, Nat.le_of_ble_eq_true rfl⟩) (pV hB.1 hK hN mh0 th0 (show shp cA 0 _ _ _ = .inr (0, Fs0 _ _ _) from rfl) rfl) rfl rfl hl.1 rfl (lv_room (Nat.le_of_ble_eq_true rfl)) dX0_lackNow_1 ⟨Nat.le_of_ble_eq_true rfl, Nat.le_of_ble_eq_true rfl⟩) hLA hA hB hS (by decide) (fun σ_1 ρ_2 H locs hB fσ_1 pσ_1 hS => ?_)
  refine lv_aload_n hx hb dX0_lackNow_4 rfl (lv_at hl 2 rfl) ?_
  refine t_gr hx hb hts hown hK hG hB mh2 th2 fq_8_0 rfl mw_1_81 dX0_lackNow_5 (fun b_4 hb_4 mb_4 tb_4 => ?_)
  refine lv_iload_n hx hb dX0_lackNow_8 rfl (lv_at hl 3 rfl) ?_
  refine t_ai hx hb hK hB mb_4 tb_4 ai_45 (fun _ => rfl) (i_in (by omega) (by omega)) dX0_lackNow_9 (fun x_5 ex_5 lx_5 ux_5 => ?_)
  refine lv_istore (lv' := [(4, .int x_5), (0, .ref h0), (1, .ref h1), (2, .ref h2), (3, .int p3)]) hx hb dX0_lackNow_10 hl (by decide) rfl (fun ls hl => ?_)
  refine w_loop (α := Int32 × Sg × Lg) (fun (i_6, σ_7, ρ_8) H locs ls => 0 ≤ i_6.toInt ∧ i_6.toInt ≤ 8 ∧ TS D cA L T r ry [(21, 1000)] σ σ_7 ρ_8 H ∧ va_S (dm L s.heap.size) s.heap H locs ∧ lv_has ls 5 [(4, .int i_6), (0, .ref h0), (1, .ref h1), (2, .ref h2), (3, .int p3)]) (fun (i_6, σ_7, ρ_8) => (8 - i_6.toInt).toNat) ?_ ⟨x_5, σ_1, ρ_2⟩ ⟨(by omega), (by omega), hB, hS, lv_sub hl [0, 1, 2, 3, 4] rfl⟩
  rintro ⟨i_6, σ_7, ρ_8⟩ H locs ls ⟨li_6, ui_6, hB, hS, hl⟩ ih_9
  refine lv_iload hx hb dX0_lackNow_12 (lv_at hl 0 rfl) ?_
  refine lv_aload_n hx hb dX0_lackNow_14 rfl (lv_at hl 2 rfl) ?_
  refine t_gi hx hb hts hown hK hB mh1 th1 fi_3_9 rfl mw_1_180 dX0_lackNow_15 (fun x_10 ex_10 lx_10 ux_10 => ?_)
  refine lv_icmp_ge (tgt := 46) hx hb dX0_lackNow_18 (by decide) (fun c_11 => ?_) (fun c_11 => ?_)
  · skip
    have uc_11 := j_le c_11
    refine lv_aload_n hx hb dX0_lackNow_46 rfl (lv_at hl 1 rfl) ?_
    refine lv_aload_n hx hb dX0_lackNow_47 rfl (lv_at hl 3 rfl) ?_
    refine lv_iload_n hx hb dX0_lackNow_48 rfl (lv_at hl 4 rfl) ?_
    refine t_cv (va_runV (As := [.ref h2, .int p3]) (rest := []) ⟨hx, hb, hml, hown, hts⟩ (cy_X0_lessenNeed l D cA L T r hG hLA.1 σ_7 ρ_8 hB.2.1 _ h0 mh0 th0 h2 mh2 th2 p3 (by first | omega | decide) (by first | omega | decide)) (cV hts mv_X0_lessenNeed mw_4_236 rfl rfl ⟨Nat.le_of_ble_eq_true rfl, Nat.le_of_ble_eq_true rfl⟩) (pV hB.1 hK hN mh0 th0 (show shp cA 0 _ _ _ = .inr (0, Fs0 _ _ _) from rfl) rfl) rfl rfl hl.1 rfl (lv_room (Nat.le_of_ble_eq_true rfl)) dX0_lackNow_49 ⟨Nat.le_of_ble_eq_true rfl, Nat.le_of_ble_eq_true rfl⟩) hLA hA hB hS (by decide) (fun σ_12 ρ_13 H locs hB fσ_12 pσ_12 hS => ?_)
    exact W.vret hx hb hr (fun t ht hW => ⟨⟨(σ_12, ρ_13), rfl, ⟨hB.2.1, hB.2.2, trivial⟩, (show TP D cA L T r σ_12 ρ_13 t.heap from by rw [ht]; exact hB.1)⟩, hS.F ht⟩) hS.2.2 dX0_lackNow_52
  · skip
    have uc_11 := j_nle c_11
    refine lv_aload_n hx hb dX0_lackNow_21 rfl (lv_at hl 1 rfl) ?_
    refine t_gr hx hb hts hown hK hG hB mh0 th0 fq_0_1 rfl mw_2_97 dX0_lackNow_22 (fun b_15 hb_15 mb_15 tb_15 => ?_)
    refine lv_aload_n hx hb dX0_lackNow_25 rfl (lv_at hl 2 rfl) ?_
    refine lv_iload hx hb dX0_lackNow_26 (lv_at hl 0 rfl) ?_
    refine lv_aload_n hx hb dX0_lackNow_28 rfl (lv_at hl 3 rfl) ?_
    refine t_gi hx hb hts hown hK hB mh2 th2 fi_8_6 rfl mw_1_107 dX0_lackNow_29 (fun x_16 ex_16 lx_16 ux_16 => ?_)
    refine t_ci (va_runV (As := [.int i_6, .int x_16]) (rest := [.ref b_15]) ⟨hx, hb, hml, hown, hts⟩ (cy_X3_askedAt l D cA L T r hG hLA.1 σ_7 ρ_8 hB.2.1 _ h1 mh1 th1 i_6 x_16 (by first | omega | decide) (by first | omega | decide)) (cV hts mv_X3_askedAt mw_4_223 rfl rfl ⟨Nat.le_of_ble_eq_true rfl, Nat.le_of_ble_eq_true rfl⟩) (pV hB.1 hK hN mh1 th1 (show shp cA 3 _ _ _ = .inr (3, Fs3 _ _ _) from rfl) rfl) rfl rfl hl.1 rfl (lv_room (Nat.le_of_ble_eq_true rfl)) dX0_lackNow_32 ⟨Nat.le_of_ble_eq_true rfl, Nat.le_of_ble_eq_true rfl⟩) hLA hA hB hS (by decide) (fun x_19 σ_17 ρ_18 H locs hB fσ_17 pσ_17 hS => ?_)
    have qσ_17 := FR.nil fσ_17
    subst qσ_17
    obtain ⟨lx_19, ux_19⟩ := pσ_17
    refine lv_dup2_11 hx hb dX0_lackNow_35 rfl rfl ?_
    refine t_ai hx hb hK hB mb_15 tb_15 ai_21 (fun _ => rfl) (i_in (by omega) (by omega)) dX0_lackNow_36 (fun x_20 ex_20 lx_20 ux_20 => ?_)
    refine lv_iconst (v := 1) hx hb dX0_lackNow_37 (by decide) ?_
    refine lv_iadd hx hb dX0_lackNow_38 ?_
    refine lv_topi (fun x_21 ex_21 => ?_)
    refine t_si hx hb hK hLA hB hS mb_15 tb_15 ai_21 (i_in (by omega) (by omega)) (i_lo _) (i_hi _) (Or.inr (by decide)) dX0_lackNow_39 (fun H locs σ_22 eσ_22 hB hS => ?_)
    have k_23 : σ_22 b_15 x_19.toNatClampNeg = x_21 := by rw [eσ_22]; exact up2_same _ _ _ _
    obtain ⟨x_24, ex_24⟩ : ∃ y : Int32, y = i_6 + 1 := ⟨_, rfl⟩
    have vx_24 := b_add (rfl : i_6.toInt = _) (by decide : (1 : Int32).toInt = 1) ex_24 (by omega) (by omega)
    refine lv_iinc (v := x_24) (lv' := [(4, .int x_24), (0, .ref h0), (1, .ref h1), (2, .ref h2), (3, .int p3)]) hx hb dX0_lackNow_40 hl (k := 0) rfl (by rw [ex_24]; rfl) (by decide) rfl (fun ls hl => ?_)
    refine lv_goto (tgt := 12) hx hb dX0_lackNow_43 (by decide) ?_
    exact ih_9 ⟨x_24, σ_22, ρ_18⟩ _ _ _ ⟨(by omega), (by omega), hB, hS, lv_sub hl [0, 1, 2, 3, 4] rfl⟩ (by show (8 - x_24.toInt).toNat < (8 - i_6.toInt).toNat; omega)
theorem mw_1_148 : (.fieldLink RX0 55 "HillBends$Hill" "first" "[I" : Cond) ∈ wsA := wsA_t (List.mem_append_left _ (List.mem_of_getElem? (l := tables_1_1) (i := 148) rfl)) rfl
theorem mw_1_154 : (.fieldLink RX0 58 "HillBends$Hill" "second" "[I" : Cond) ∈ wsA := wsA_t (List.mem_append_left _ (List.mem_of_getElem? (l := tables_1_1) (i := 154) rfl)) rfl
theorem dX0_lackEver_0 : decode cX0_lackEver 0 = .ok (.aload_n 0, 1) := by decide +kernel
theorem dX0_lackEver_1 : decode cX0_lackEver 1 = .ok (.invokevirtual 49, 3) := by decide +kernel
theorem dX0_lackEver_4 : decode cX0_lackEver 4 = .ok (.aload_n 2, 1) := by decide +kernel
theorem dX0_lackEver_5 : decode cX0_lackEver 5 = .ok (.getfield 33, 3) := by decide +kernel
theorem dX0_lackEver_8 : decode cX0_lackEver 8 = .ok (.iload_n 3, 1) := by decide +kernel
theorem dX0_lackEver_9 : decode cX0_lackEver 9 = .ok (.iaload, 1) := by decide +kernel
theorem dX0_lackEver_10 : decode cX0_lackEver 10 = .ok (.istore 4, 2) := by decide +kernel
theorem dX0_lackEver_12 : decode cX0_lackEver 12 = .ok (.iload 4, 2) := by decide +kernel
theorem dX0_lackEver_14 : decode cX0_lackEver 14 = .ok (.aload_n 1, 1) := by decide +kernel
theorem dX0_lackEver_15 : decode cX0_lackEver 15 = .ok (.getfield 36, 3) := by decide +kernel
theorem dX0_lackEver_18 : decode cX0_lackEver 18 = .ok (.if_icmp .ge 58, 3) := by decide +kernel
theorem dX0_lackEver_76 : decode cX0_lackEver 76 = .ok (.aload_n 0, 1) := by decide +kernel
theorem dX0_lackEver_77 : decode cX0_lackEver 77 = .ok (.aload_n 2, 1) := by decide +kernel
theorem dX0_lackEver_78 : decode cX0_lackEver 78 = .ok (.iload_n 3, 1) := by decide +kernel
theorem dX0_lackEver_79 : decode cX0_lackEver 79 = .ok (.invokevirtual 52, 3) := by decide +kernel
theorem dX0_lackEver_82 : decode cX0_lackEver 82 = .ok (.return_, 1) := by decide +kernel
theorem dX0_lackEver_21 : decode cX0_lackEver 21 = .ok (.aload_n 0, 1) := by decide +kernel
theorem dX0_lackEver_22 : decode cX0_lackEver 22 = .ok (.getfield 15, 3) := by decide +kernel
theorem dX0_lackEver_25 : decode cX0_lackEver 25 = .ok (.aload_n 1, 1) := by decide +kernel
theorem dX0_lackEver_26 : decode cX0_lackEver 26 = .ok (.getfield 55, 3) := by decide +kernel
theorem dX0_lackEver_29 : decode cX0_lackEver 29 = .ok (.iload 4, 2) := by decide +kernel
theorem dX0_lackEver_31 : decode cX0_lackEver 31 = .ok (.iaload, 1) := by decide +kernel
theorem dX0_lackEver_32 : decode cX0_lackEver 32 = .ok (.dup2, 1) := by decide +kernel
theorem dX0_lackEver_33 : decode cX0_lackEver 33 = .ok (.iaload, 1) := by decide +kernel
theorem dX0_lackEver_34 : decode cX0_lackEver 34 = .ok (.iconst 1, 1) := by decide +kernel
theorem dX0_lackEver_35 : decode cX0_lackEver 35 = .ok (.iadd, 1) := by decide +kernel
theorem dX0_lackEver_36 : decode cX0_lackEver 36 = .ok (.iastore, 1) := by decide +kernel
theorem dX0_lackEver_37 : decode cX0_lackEver 37 = .ok (.aload_n 1, 1) := by decide +kernel
theorem dX0_lackEver_38 : decode cX0_lackEver 38 = .ok (.getfield 58, 3) := by decide +kernel
theorem dX0_lackEver_41 : decode cX0_lackEver 41 = .ok (.iload 4, 2) := by decide +kernel
theorem dX0_lackEver_43 : decode cX0_lackEver 43 = .ok (.iaload, 1) := by decide +kernel
theorem dX0_lackEver_44 : decode cX0_lackEver 44 = .ok (.aload_n 1, 1) := by decide +kernel
theorem dX0_lackEver_45 : decode cX0_lackEver 45 = .ok (.getfield 55, 3) := by decide +kernel
theorem dX0_lackEver_48 : decode cX0_lackEver 48 = .ok (.iload 4, 2) := by decide +kernel
theorem dX0_lackEver_50 : decode cX0_lackEver 50 = .ok (.iaload, 1) := by decide +kernel
theorem dX0_lackEver_51 : decode cX0_lackEver 51 = .ok (.if_icmp .eq 19, 3) := by decide +kernel
theorem dX0_lackEver_70 : decode cX0_lackEver 70 = .ok (.iinc 4 1, 3) := by decide +kernel
theorem dX0_lackEver_73 : decode cX0_lackEver 73 = .ok (.goto (-61), 3) := by decide +kernel
theorem dX0_lackEver_54 : decode cX0_lackEver 54 = .ok (.aload_n 0, 1) := by decide +kernel
theorem dX0_lackEver_55 : decode cX0_lackEver 55 = .ok (.getfield 15, 3) := by decide +kernel
theorem dX0_lackEver_58 : decode cX0_lackEver 58 = .ok (.aload_n 1, 1) := by decide +kernel
theorem dX0_lackEver_59 : decode cX0_lackEver 59 = .ok (.getfield 58, 3) := by decide +kernel
theorem dX0_lackEver_62 : decode cX0_lackEver 62 = .ok (.iload 4, 2) := by decide +kernel
theorem dX0_lackEver_64 : decode cX0_lackEver 64 = .ok (.iaload, 1) := by decide +kernel
theorem dX0_lackEver_65 : decode cX0_lackEver 65 = .ok (.dup2, 1) := by decide +kernel
theorem dX0_lackEver_66 : decode cX0_lackEver 66 = .ok (.iaload, 1) := by decide +kernel
theorem dX0_lackEver_67 : decode cX0_lackEver 67 = .ok (.iconst 1, 1) := by decide +kernel
theorem dX0_lackEver_68 : decode cX0_lackEver 68 = .ok (.iadd, 1) := by decide +kernel
theorem dX0_lackEver_69 : decode cX0_lackEver 69 = .ok (.iastore, 1) := by decide +kernel
set_option maxHeartbeats 4000000 in
set_option maxRecDepth 100000 in
theorem cy_X0_lackEver (l : Launch) (D : va_G) (cA : Nat → ClassId) (L : List Nat) (T : Nat → Nat) (r : Rg) (hG : GR L T r) (hL : L.Nodup) (σ : Sg) (ρ : Lg) (hW : WT L ry T σ) (sz : Nat) (h0 : Nat) (mh0 : h0 ∈ L) (th0 : T h0 = 0) (h1 : Nat) (mh1 : h1 ∈ L) (th1 : T h1 = 3) (h2 : Nat) (mh2 : h2 ∈ L) (th2 : T h2 = 8) (p3 : Int32) (w0 : 0 ≤ p3.toInt) (w1 : p3.toInt ≤ 3) : Met l yX0_lackEver (.code yX0_lackEver cX0_lackEver 5 none :: wsA) ({ frames := 2, cells := 0, slots := 0, locals := 63 }) (PR D cA L T r σ ρ sz [.ref h0, .ref h1, .ref h2, .int p3]) (QV D cA L T r ry [(21, 1000)] σ sz (fun σ1 => True)) 0 0 (dm L sz) := by
  refine Met.ofW (cc := cX0_lackEver) (maxL := 5) (ret := none) (by decide) rfl ?_
  intro p e s m args below meth c s₁ B hml hv
  obtain ⟨rfl, hsz, hP, hK, hN⟩ := hv
  have hx := B.exec
  have hb := B.bytes
  have hr := B.returns
  have hts : ∀ w ∈ wsA, w.before _ s = true := fun w h => atoms_spec (ws := .code yX0_lackEver cX0_lackEver 5 none :: wsA) B.pre w (List.mem_cons_of_mem _ h)
  have hown : s.vm.findClass RX0 = some m.cls := findClass_of_methodNamed B.named
  subst hsz
  have hLA : LA (dm L s.heap.size) L := ⟨hL, fun a h => Or.inl h⟩
  have hA : ∀ q : Nat, s.heap.size ≤ q → dm L s.heap.size q := fun q h => Or.inr h
  have hS : va_S (dm L s.heap.size) s.heap s.heap [] := va_S.rf
  have hB : TS D cA L T r ry [(21, 1000)] σ σ ρ s.heap := ⟨hP, hW, FR.rf⟩
  have hl := lv_entry ([.ref h0, .ref h1, .ref h2, .int p3]) (n := 5) (Nat.le_of_ble_eq_true rfl)
  rw [lg_entry_eq]
  generalize (lg_sl ([.ref h0, .ref h1, .ref h2, .int p3]) ++ List.replicate (5 - (lg_sl ([.ref h0, .ref h1, .ref h2, .int p3])).length) Slot.unset).toArray = ls at hl ⊢
  have hl : lv_has ls 5 [(0, .ref h0), (1, .ref h1), (2, .ref h2), (3, .int p3)] := hl
  refine lv_aload_n hx hb dX0_lackEver_0 rfl (lv_at hl 0 rfl) ?_
  refine t_cv (va_runV (As := []) (rest := []) ⟨hx, hb, hml, hown, hts⟩ (cy_X0_clearNeed l D cA L T r hG hLA.1 σ ρ hB.2.1 _ h0 mh0 th0) (cV hts mv_X0_clearNeed mw_4_232 rfl rfl ⟨Nat.le_of_ble_eq_true rfl, Nat.le_of_ble_eq_true rfl⟩) (pV hB.1 hK hN mh0 th0 (show shp cA 0 _ _ _ = .inr (0, Fs0 _ _ _) from rfl) rfl) rfl rfl hl.1 rfl (lv_room (Nat.le_of_ble_eq_true rfl)) dX0_lackEver_1 ⟨Nat.le_of_ble_eq_true rfl, Nat.le_of_ble_eq_true rfl⟩) hLA hA hB hS (by decide) (fun σ_1 ρ_2 H locs hB fσ_1 pσ_1 hS => ?_)
  refine lv_aload_n hx hb dX0_lackEver_4 rfl (lv_at hl 2 rfl) ?_
  refine t_gr hx hb hts hown hK hG hB mh2 th2 fq_8_0 rfl mw_1_81 dX0_lackEver_5 (fun b_4 hb_4 mb_4 tb_4 => ?_)
  refine lv_iload_n hx hb dX0_lackEver_8 rfl (lv_at hl 3 rfl) ?_
  refine t_ai hx hb hK hB mb_4 tb_4 ai_45 (fun _ => rfl) (i_in (by omega) (by omega)) dX0_lackEver_9 (fun x_5 ex_5 lx_5 ux_5 => ?_)
  refine lv_istore (lv' := [(4, .int x_5), (0, .ref h0), (1, .ref h1), (2, .ref h2), (3, .int p3)]) hx hb dX0_lackEver_10 hl (by decide) rfl (fun ls hl => ?_)
  refine w_loop (α := Int32 × Sg × Lg) (fun (i_6, σ_7, ρ_8) H locs ls => 0 ≤ i_6.toInt ∧ i_6.toInt ≤ 8 ∧ TS D cA L T r ry [(21, 1000)] σ σ_7 ρ_8 H ∧ va_S (dm L s.heap.size) s.heap H locs ∧ lv_has ls 5 [(4, .int i_6), (0, .ref h0), (1, .ref h1), (2, .ref h2), (3, .int p3)]) (fun (i_6, σ_7, ρ_8) => (8 - i_6.toInt).toNat) ?_ ⟨x_5, σ_1, ρ_2⟩ ⟨(by omega), (by omega), hB, hS, lv_sub hl [0, 1, 2, 3, 4] rfl⟩
  rintro ⟨i_6, σ_7, ρ_8⟩ H locs ls ⟨li_6, ui_6, hB, hS, hl⟩ ih_9
  refine lv_iload hx hb dX0_lackEver_12 (lv_at hl 0 rfl) ?_
  refine lv_aload_n hx hb dX0_lackEver_14 rfl (lv_at hl 2 rfl) ?_
  refine t_gi hx hb hts hown hK hB mh1 th1 fi_3_9 rfl mw_1_180 dX0_lackEver_15 (fun x_10 ex_10 lx_10 ux_10 => ?_)
  refine lv_icmp_ge (tgt := 76) hx hb dX0_lackEver_18 (by decide) (fun c_11 => ?_) (fun c_11 => ?_)
  · skip
    have uc_11 := j_le c_11
    refine lv_aload_n hx hb dX0_lackEver_76 rfl (lv_at hl 1 rfl) ?_
    refine lv_aload_n hx hb dX0_lackEver_77 rfl (lv_at hl 3 rfl) ?_
    refine lv_iload_n hx hb dX0_lackEver_78 rfl (lv_at hl 4 rfl) ?_
    refine t_cv (va_runV (As := [.ref h2, .int p3]) (rest := []) ⟨hx, hb, hml, hown, hts⟩ (cy_X0_lessenNeed l D cA L T r hG hLA.1 σ_7 ρ_8 hB.2.1 _ h0 mh0 th0 h2 mh2 th2 p3 (by first | omega | decide) (by first | omega | decide)) (cV hts mv_X0_lessenNeed mw_4_236 rfl rfl ⟨Nat.le_of_ble_eq_true rfl, Nat.le_of_ble_eq_true rfl⟩) (pV hB.1 hK hN mh0 th0 (show shp cA 0 _ _ _ = .inr (0, Fs0 _ _ _) from rfl) rfl) rfl rfl hl.1 rfl (lv_room (Nat.le_of_ble_eq_true rfl)) dX0_lackEver_79 ⟨Nat.le_of_ble_eq_true rfl, Nat.le_of_ble_eq_true rfl⟩) hLA hA hB hS (by decide) (fun σ_12 ρ_13 H locs hB fσ_12 pσ_12 hS => ?_)
    exact W.vret hx hb hr (fun t ht hW => ⟨⟨(σ_12, ρ_13), rfl, ⟨hB.2.1, hB.2.2, trivial⟩, (show TP D cA L T r σ_12 ρ_13 t.heap from by rw [ht]; exact hB.1)⟩, hS.F ht⟩) hS.2.2 dX0_lackEver_82
  · skip
    have uc_11 := j_nle c_11
    refine lv_aload_n hx hb dX0_lackEver_21 rfl (lv_at hl 1 rfl) ?_
    refine t_gr hx hb hts hown hK hG hB mh0 th0 fq_0_1 rfl mw_2_97 dX0_lackEver_22 (fun b_15 hb_15 mb_15 tb_15 => ?_)
    refine lv_aload_n hx hb dX0_lackEver_25 rfl (lv_at hl 2 rfl) ?_
    refine t_gr hx hb hts hown hK hG hB mh1 th1 fq_3_3 rfl mw_1_148 dX0_lackEver_26 (fun b_16 hb_16 mb_16 tb_16 => ?_)
    refine lv_iload hx hb dX0_lackEver_29 (lv_at hl 0 rfl) ?_
    refine t_ai hx hb hK hB mb_16 tb_16 ai_36 (fun _ => rfl) (i_in (by omega) (by omega)) dX0_lackEver_31 (fun x_17 ex_17 lx_17 ux_17 => ?_)
    refine lv_dup2_11 hx hb dX0_lackEver_32 rfl rfl ?_
    refine t_ai hx hb hK hB mb_15 tb_15 ai_21 (fun _ => rfl) (i_in (by omega) (by omega)) dX0_lackEver_33 (fun x_18 ex_18 lx_18 ux_18 => ?_)
    refine lv_iconst (v := 1) hx hb dX0_lackEver_34 (by decide) ?_
    refine lv_iadd hx hb dX0_lackEver_35 ?_
    refine lv_topi (fun x_19 ex_19 => ?_)
    refine t_si hx hb hK hLA hB hS mb_15 tb_15 ai_21 (i_in (by omega) (by omega)) (i_lo _) (i_hi _) (Or.inr (by decide)) dX0_lackEver_36 (fun H locs σ_20 eσ_20 hB hS => ?_)
    have k_21 : σ_20 b_15 x_17.toNatClampNeg = x_19 := by rw [eσ_20]; exact up2_same _ _ _ _
    refine lv_aload_n hx hb dX0_lackEver_37 rfl (lv_at hl 2 rfl) ?_
    refine t_gr hx hb hts hown hK hG hB mh1 th1 fq_3_4 rfl mw_1_154 dX0_lackEver_38 (fun b_22 hb_22 mb_22 tb_22 => ?_)
    refine lv_iload hx hb dX0_lackEver_41 (lv_at hl 0 rfl) ?_
    refine t_ai hx hb hK hB mb_22 tb_22 ai_37 (fun _ => rfl) (i_in (by omega) (by omega)) dX0_lackEver_43 (fun x_23 ex_23 lx_23 ux_23 => ?_)
    refine lv_aload_n hx hb dX0_lackEver_44 rfl (lv_at hl 2 rfl) ?_
    refine t_gk hx hb hts hown hK hB mh1 th1 fq_3_3 hb_16 mw_1_148 dX0_lackEver_45 ?_
    refine lv_iload hx hb dX0_lackEver_48 (lv_at hl 0 rfl) ?_
    have k_24 : σ_20 b_16 i_6.toNatClampNeg = x_17 := by rw [eσ_20, up2_nea _ _ (tg_ne tb_16 tb_15 (by decide))]; exact ex_17.symm
    refine t_ai hx hb hK hB mb_16 tb_16 ai_36 (fun _ => rfl) (i_in (by omega) (by omega)) dX0_lackEver_50 (fun x_25 ex_25 lx_25 ux_25 => ?_)
    have qx_25 : x_25 = x_17 := ex_25.trans k_24
    have qx_25 := qx_25.symm
    subst qx_25
    refine lv_icmp_eq (tgt := 70) hx hb dX0_lackEver_51 (by decide) (fun c_26 => ?_) (fun c_26 => ?_)
    · skip
      have uc_26 := j_eq c_26
      obtain ⟨x_27, ex_27⟩ : ∃ y : Int32, y = i_6 + 1 := ⟨_, rfl⟩
      have vx_27 := b_add (rfl : i_6.toInt = _) (by decide : (1 : Int32).toInt = 1) ex_27 (by omega) (by omega)
      refine lv_iinc (v := x_27) (lv' := [(4, .int x_27), (0, .ref h0), (1, .ref h1), (2, .ref h2), (3, .int p3)]) hx hb dX0_lackEver_70 hl (k := 0) rfl (by rw [ex_27]; rfl) (by decide) rfl (fun ls hl => ?_)
      refine lv_goto (tgt := 12) hx hb dX0_lackEver_73 (by decide) ?_
      exact ih_9 ⟨x_27, σ_20, ρ_8⟩ _ _ _ ⟨(by omega), (by omega), hB, hS, lv_sub hl [0, 1, 2, 3, 4] rfl⟩ (by show (8 - x_27.toInt).toNat < (8 - i_6.toInt).toNat; omega)
    · skip
      have uc_26 := j_ne c_26
      refine lv_aload_n hx hb dX0_lackEver_54 rfl (lv_at hl 1 rfl) ?_
      refine t_gk hx hb hts hown hK hB mh0 th0 fq_0_1 hb_15 mw_2_97 dX0_lackEver_55 ?_
      refine lv_aload_n hx hb dX0_lackEver_58 rfl (lv_at hl 2 rfl) ?_
      refine t_gk hx hb hts hown hK hB mh1 th1 fq_3_4 hb_22 mw_1_154 dX0_lackEver_59 ?_
      refine lv_iload hx hb dX0_lackEver_62 (lv_at hl 0 rfl) ?_
      refine t_ai hx hb hK hB mb_22 tb_22 ai_37 (fun _ => rfl) (i_in (by omega) (by omega)) dX0_lackEver_64 (fun x_28 ex_28 lx_28 ux_28 => ?_)
      have qx_28 : x_28 = x_23 := ex_28.trans ex_23.symm
      have qx_28 := qx_28.symm
      subst qx_28
      refine lv_dup2_11 hx hb dX0_lackEver_65 rfl rfl ?_
      refine t_ai hx hb hK hB mb_15 tb_15 ai_21 (fun _ => rfl) (i_in (by omega) (by omega)) dX0_lackEver_66 (fun x_29 ex_29 lx_29 ux_29 => ?_)
      refine lv_iconst (v := 1) hx hb dX0_lackEver_67 (by decide) ?_
      refine lv_iadd hx hb dX0_lackEver_68 ?_
      refine lv_topi (fun x_30 ex_30 => ?_)
      refine t_si hx hb hK hLA hB hS mb_15 tb_15 ai_21 (i_in (by omega) (by omega)) (i_lo _) (i_hi _) (Or.inr (by decide)) dX0_lackEver_69 (fun H locs σ_31 eσ_31 hB hS => ?_)
      have k_32 : σ_31 b_15 x_23.toNatClampNeg = x_30 := by rw [eσ_31]; exact up2_same _ _ _ _
      obtain ⟨x_33, ex_33⟩ : ∃ y : Int32, y = i_6 + 1 := ⟨_, rfl⟩
      have vx_33 := b_add (rfl : i_6.toInt = _) (by decide : (1 : Int32).toInt = 1) ex_33 (by omega) (by omega)
      refine lv_iinc (v := x_33) (lv' := [(4, .int x_33), (0, .ref h0), (1, .ref h1), (2, .ref h2), (3, .int p3)]) hx hb dX0_lackEver_70 hl (k := 0) rfl (by rw [ex_33]; rfl) (by decide) rfl (fun ls hl => ?_)
      refine lv_goto (tgt := 12) hx hb dX0_lackEver_73 (by decide) ?_
      exact ih_9 ⟨x_33, σ_31, ρ_8⟩ _ _ _ ⟨(by omega), (by omega), hB, hS, lv_sub hl [0, 1, 2, 3, 4] rfl⟩ (by show (8 - x_33.toInt).toNat < (8 - i_6.toInt).toNat; omega)
theorem mw_1_82 : (.fieldLink RX1 68 "HillBends$Scene" "height" "[I" : Cond) ∈ wsA := wsA_t (List.mem_append_left _ (List.mem_of_getElem? (l := tables_1_1) (i := 82) rfl)) rfl
theorem mw_1_97 : (.fieldLink RX1 74 "HillBends$Scene" "has" "[I" : Cond) ∈ wsA := wsA_t (List.mem_append_left _ (List.mem_of_getElem? (l := tables_1_1) (i := 97) rfl)) rfl
theorem mw_5_78 : (.methodLink RX1 77 yJ9_min_7cf53 : Cond) ∈ wsA := wsA_t (List.mem_append_right _ (List.mem_append_right _ (List.mem_append_right _ (List.mem_append_right _ (List.mem_append_left _ (List.mem_of_getElem? (l := tables_1_5) (i := 78) rfl)))))) rfl
theorem mw_1_101 : (.fieldLink RX1 71 "HillBends$Scene" "heap" "[I" : Cond) ∈ wsA := wsA_t (List.mem_append_left _ (List.mem_of_getElem? (l := tables_1_1) (i := 101) rfl)) rfl
theorem dX1_mostOf_0 : decode cX1_mostOf 0 = .ok (.iconst 0, 1) := by decide +kernel
theorem dX1_mostOf_1 : decode cX1_mostOf 1 = .ok (.istore_n 3, 1) := by decide +kernel
theorem dX1_mostOf_2 : decode cX1_mostOf 2 = .ok (.iconst 0, 1) := by decide +kernel
theorem dX1_mostOf_3 : decode cX1_mostOf 3 = .ok (.istore 4, 2) := by decide +kernel
theorem dX1_mostOf_5 : decode cX1_mostOf 5 = .ok (.iload 4, 2) := by decide +kernel
theorem dX1_mostOf_7 : decode cX1_mostOf 7 = .ok (.aload_n 0, 1) := by decide +kernel
theorem dX1_mostOf_8 : decode cX1_mostOf 8 = .ok (.getfield 68, 3) := by decide +kernel
theorem dX1_mostOf_11 : decode cX1_mostOf 11 = .ok (.iload_n 1, 1) := by decide +kernel
theorem dX1_mostOf_12 : decode cX1_mostOf 12 = .ok (.iaload, 1) := by decide +kernel
theorem dX1_mostOf_13 : decode cX1_mostOf 13 = .ok (.if_icmp .ge 23, 3) := by decide +kernel
theorem dX1_mostOf_36 : decode cX1_mostOf 36 = .ok (.iload_n 3, 1) := by decide +kernel
theorem dX1_mostOf_37 : decode cX1_mostOf 37 = .ok (.bipush 9, 2) := by decide +kernel
theorem dX1_mostOf_39 : decode cX1_mostOf 39 = .ok (.aload_n 0, 1) := by decide +kernel
theorem dX1_mostOf_40 : decode cX1_mostOf 40 = .ok (.getfield 74, 3) := by decide +kernel
theorem dX1_mostOf_43 : decode cX1_mostOf 43 = .ok (.iload_n 1, 1) := by decide +kernel
theorem dX1_mostOf_44 : decode cX1_mostOf 44 = .ok (.iconst 5, 1) := by decide +kernel
theorem dX1_mostOf_45 : decode cX1_mostOf 45 = .ok (.imul, 1) := by decide +kernel
theorem dX1_mostOf_46 : decode cX1_mostOf 46 = .ok (.iload_n 2, 1) := by decide +kernel
theorem dX1_mostOf_47 : decode cX1_mostOf 47 = .ok (.iadd, 1) := by decide +kernel
theorem dX1_mostOf_48 : decode cX1_mostOf 48 = .ok (.iaload, 1) := by decide +kernel
theorem dX1_mostOf_49 : decode cX1_mostOf 49 = .ok (.isub, 1) := by decide +kernel
theorem dX1_mostOf_50 : decode cX1_mostOf 50 = .ok (.invokestatic 77, 3) := by decide +kernel
theorem dX1_mostOf_53 : decode cX1_mostOf 53 = .ok (.ireturn, 1) := by decide +kernel
theorem dX1_mostOf_16 : decode cX1_mostOf 16 = .ok (.iload_n 3, 1) := by decide +kernel
theorem dX1_mostOf_17 : decode cX1_mostOf 17 = .ok (.aload_n 0, 1) := by decide +kernel
theorem dX1_mostOf_18 : decode cX1_mostOf 18 = .ok (.getfield 71, 3) := by decide +kernel
theorem dX1_mostOf_21 : decode cX1_mostOf 21 = .ok (.iload 4, 2) := by decide +kernel
theorem dX1_mostOf_23 : decode cX1_mostOf 23 = .ok (.iconst 5, 1) := by decide +kernel
theorem dX1_mostOf_24 : decode cX1_mostOf 24 = .ok (.imul, 1) := by decide +kernel
theorem dX1_mostOf_25 : decode cX1_mostOf 25 = .ok (.iload_n 2, 1) := by decide +kernel
theorem dX1_mostOf_26 : decode cX1_mostOf 26 = .ok (.iadd, 1) := by decide +kernel
theorem dX1_mostOf_27 : decode cX1_mostOf 27 = .ok (.iaload, 1) := by decide +kernel
theorem dX1_mostOf_28 : decode cX1_mostOf 28 = .ok (.iadd, 1) := by decide +kernel
theorem dX1_mostOf_29 : decode cX1_mostOf 29 = .ok (.istore_n 3, 1) := by decide +kernel
theorem dX1_mostOf_30 : decode cX1_mostOf 30 = .ok (.iinc 4 1, 3) := by decide +kernel
theorem dX1_mostOf_33 : decode cX1_mostOf 33 = .ok (.goto (-28), 3) := by decide +kernel
set_option maxHeartbeats 4000000 in
set_option maxRecDepth 100000 in
theorem cy_X1_mostOf (l : Launch) (D : va_G) (cA : Nat → ClassId) (L : List Nat) (T : Nat → Nat) (r : Rg) (hG : GR L T r) (hL : L.Nodup) (σ : Sg) (ρ : Lg) (hW : WT L ry T σ) (sz : Nat) (h1 : Nat) (mh1 : h1 ∈ L) (th1 : T h1 = 8) (p2 : Int32) (p3 : Int32) (w0 : 0 ≤ p2.toInt) (w1 : p2.toInt ≤ 3) (w2 : 0 ≤ p3.toInt) (w3 : p3.toInt ≤ 4) : Met l yX1_mostOf (.code yX1_mostOf cX1_mostOf 5 (some .int) :: wsA) ({ frames := 1, cells := 0, slots := 0, locals := 40 }) (PR D cA L T r σ ρ sz [.ref h1, .int p2, .int p3]) (QI D cA L T r ry ([] : List (Nat × Nat)) σ sz (fun x σ1 => True)) 0 0 (dm L sz) := by
  refine Met.ofW (cc := cX1_mostOf) (maxL := 5) (ret := (some .int)) (by decide) rfl ?_
  intro p e s m args below meth c s₁ B hml hv
  obtain ⟨rfl, hsz, hP, hK, hN⟩ := hv
  have hx := B.exec
  have hb := B.bytes
  have hr := B.returns
  have hts : ∀ w ∈ wsA, w.before _ s = true := fun w h => atoms_spec (ws := .code yX1_mostOf cX1_mostOf 5 (some .int) :: wsA) B.pre w (List.mem_cons_of_mem _ h)
  have hown : s.vm.findClass RX1 = some m.cls := findClass_of_methodNamed B.named
  subst hsz
  have hLA : LA (dm L s.heap.size) L := ⟨hL, fun a h => Or.inl h⟩
  have hA : ∀ q : Nat, s.heap.size ≤ q → dm L s.heap.size q := fun q h => Or.inr h
  have hS : va_S (dm L s.heap.size) s.heap s.heap [] := va_S.rf
  have hB : TS D cA L T r ry ([] : List (Nat × Nat)) σ σ ρ s.heap := ⟨hP, hW, FR.rf⟩
  have hl := lv_entry ([.ref h1, .int p2, .int p3]) (n := 5) (Nat.le_of_ble_eq_true rfl)
  rw [lg_entry_eq]
  generalize (lg_sl ([.ref h1, .int p2, .int p3]) ++ List.replicate (5 - (lg_sl ([.ref h1, .int p2, .int p3])).length) Slot.unset).toArray = ls at hl ⊢
  have hl : lv_has ls 5 [(0, .ref h1), (1, .int p2), (2, .int p3)] := hl
  refine lv_iconst (v := 0) hx hb dX1_mostOf_0 (by decide) ?_
  refine lv_istore_n (lv' := [(3, .int 0), (0, .ref h1), (1, .int p2), (2, .int p3)]) hx hb dX1_mostOf_1 rfl hl (by decide) rfl (fun ls hl => ?_)
  refine lv_iconst (v := 0) hx hb dX1_mostOf_2 (by decide) ?_
  refine lv_istore (lv' := [(4, .int 0), (3, .int 0), (0, .ref h1), (1, .int p2), (2, .int p3)]) hx hb dX1_mostOf_3 hl (by decide) rfl (fun ls hl => ?_)
  refine w_loop (α := Int32 × Int32 × Sg × Lg) (fun (i_1, i_2, σ_3, ρ_4) H locs ls => 0 ≤ i_2.toInt ∧ i_2.toInt ≤ 8 ∧ TS D cA L T r ry ([] : List (Nat × Nat)) σ σ_3 ρ_4 H ∧ va_S (dm L s.heap.size) s.heap H locs ∧ lv_has ls 5 [(4, .int i_2), (3, .int i_1), (0, .ref h1), (1, .int p2), (2, .int p3)]) (fun (i_1, i_2, σ_3, ρ_4) => (8 - i_2.toInt).toNat) ?_ ⟨0, 0, σ, ρ⟩ ⟨(by decide), (by decide), hB, hS, lv_sub hl [0, 1, 2, 3, 4] rfl⟩
  rintro ⟨i_1, i_2, σ_3, ρ_4⟩ H locs ls ⟨li_2, ui_2, hB, hS, hl⟩ ih_5
  refine lv_iload hx hb dX1_mostOf_5 (lv_at hl 0 rfl) ?_
  refine lv_aload_n hx hb dX1_mostOf_7 rfl (lv_at hl 2 rfl) ?_
  refine t_gr hx hb hts hown hK hG hB mh1 th1 fq_8_0 rfl mw_1_82 dX1_mostOf_8 (fun b_6 hb_6 mb_6 tb_6 => ?_)
  refine lv_iload_n hx hb dX1_mostOf_11 rfl (lv_at hl 3 rfl) ?_
  refine t_ai hx hb hK hB mb_6 tb_6 ai_45 (fun _ => rfl) (i_in (by omega) (by omega)) dX1_mostOf_12 (fun x_7 ex_7 lx_7 ux_7 => ?_)
  refine lv_icmp_ge (tgt := 36) hx hb dX1_mostOf_13 (by decide) (fun c_8 => ?_) (fun c_8 => ?_)
  · skip
    have uc_8 := j_le c_8
    refine lv_iload_n hx hb dX1_mostOf_36 rfl (lv_at hl 1 rfl) ?_
    refine lv_bipush (v := 9) hx hb dX1_mostOf_37 (by decide) ?_
    refine lv_aload_n hx hb dX1_mostOf_39 rfl (lv_at hl 2 rfl) ?_
    refine t_gr hx hb hts hown hK hG hB mh1 th1 fq_8_4 rfl mw_1_97 dX1_mostOf_40 (fun b_9 hb_9 mb_9 tb_9 => ?_)
    refine lv_iload_n hx hb dX1_mostOf_43 rfl (lv_at hl 3 rfl) ?_
    refine lv_iconst (v := 5) hx hb dX1_mostOf_44 (by decide) ?_
    refine lv_imul hx hb dX1_mostOf_45 ?_
    refine lv_topi (fun x_10 ex_10 => ?_)
    have vx_10 := b_mul (rfl : p2.toInt = _) (by decide : (5 : Int32).toInt = 5) ex_10 (by omega) (by omega)
    refine lv_iload_n hx hb dX1_mostOf_46 rfl (lv_at hl 4 rfl) ?_
    refine lv_iadd hx hb dX1_mostOf_47 ?_
    refine lv_topi (fun x_11 ex_11 => ?_)
    have vx_11 := b_add (rfl : x_10.toInt = _) (rfl : p3.toInt = _) ex_11 (by omega) (by omega)
    refine t_ai hx hb hK hB mb_9 tb_9 ai_49 (fun _ => rfl) (i_in (by omega) (by omega)) dX1_mostOf_48 (fun x_12 ex_12 lx_12 ux_12 => ?_)
    refine lv_isub hx hb dX1_mostOf_49 ?_
    refine lv_topi (fun x_13 ex_13 => ?_)
    refine va_mmin hx hb (hml.trans hl.1.symm) hown (hts _ mw_5_78) (hts _ mw_3_123) (hts _ mw_1_18) (hts _ mw_3_124) (Nat.le_of_ble_eq_true rfl) (Nat.le_of_ble_eq_true rfl) (Nat.zero_le _) (Nat.zero_le _) dX1_mostOf_50 ?_
    refine lv_topi (fun x_14 ex_14 => ?_)
    obtain ⟨lx_14, mx_14, ux_14⟩ := m_min (rfl : i_1.toInt = _) (rfl : x_13.toInt = _) ex_14
    exact W.iret (v := x_14) hx hb hr (fun t ht hW => ⟨⟨x_14, (σ_3, ρ_4), rfl, ⟨hB.2.1, hB.2.2, trivial⟩, (show TP D cA L T r σ_3 ρ_4 t.heap from by rw [ht]; exact hB.1)⟩, hS.F ht⟩) hS.2.2 dX1_mostOf_53
  · skip
    have uc_8 := j_nle c_8
    refine lv_iload_n hx hb dX1_mostOf_16 rfl (lv_at hl 1 rfl) ?_
    refine lv_aload_n hx hb dX1_mostOf_17 rfl (lv_at hl 2 rfl) ?_
    refine t_gr hx hb hts hown hK hG hB mh1 th1 fq_8_5 rfl mw_1_101 dX1_mostOf_18 (fun b_15 hb_15 mb_15 tb_15 => ?_)
    refine lv_iload hx hb dX1_mostOf_21 (lv_at hl 0 rfl) ?_
    refine lv_iconst (v := 5) hx hb dX1_mostOf_23 (by decide) ?_
    refine lv_imul hx hb dX1_mostOf_24 ?_
    refine lv_topi (fun x_16 ex_16 => ?_)
    have vx_16 := b_mul (rfl : i_2.toInt = _) (by decide : (5 : Int32).toInt = 5) ex_16 (by omega) (by omega)
    refine lv_iload_n hx hb dX1_mostOf_25 rfl (lv_at hl 4 rfl) ?_
    refine lv_iadd hx hb dX1_mostOf_26 ?_
    refine lv_topi (fun x_17 ex_17 => ?_)
    have vx_17 := b_add (rfl : x_16.toInt = _) (rfl : p3.toInt = _) ex_17 (by omega) (by omega)
    refine t_ai hx hb hK hB mb_15 tb_15 ai_50 (fun _ => rfl) (i_in (by omega) (by omega)) dX1_mostOf_27 (fun x_18 ex_18 lx_18 ux_18 => ?_)
    refine lv_iadd hx hb dX1_mostOf_28 ?_
    refine lv_topi (fun x_19 ex_19 => ?_)
    refine lv_istore_n (lv' := [(3, .int x_19), (4, .int i_2), (0, .ref h1), (1, .int p2), (2, .int p3)]) hx hb dX1_mostOf_29 rfl hl (by decide) rfl (fun ls hl => ?_)
    obtain ⟨x_20, ex_20⟩ : ∃ y : Int32, y = i_2 + 1 := ⟨_, rfl⟩
    have vx_20 := b_add (rfl : i_2.toInt = _) (by decide : (1 : Int32).toInt = 1) ex_20 (by omega) (by omega)
    refine lv_iinc (v := x_20) (lv' := [(4, .int x_20), (3, .int x_19), (0, .ref h1), (1, .int p2), (2, .int p3)]) hx hb dX1_mostOf_30 hl (k := 1) rfl (by rw [ex_20]; rfl) (by decide) rfl (fun ls hl => ?_)
    refine lv_goto (tgt := 5) hx hb dX1_mostOf_33 (by decide) ?_
    exact ih_5 ⟨x_19, x_20, σ_3, ρ_4⟩ _ _ _ ⟨(by omega), (by omega), hB, hS, lv_sub hl [0, 1, 2, 3, 4] rfl⟩ (by show (8 - x_20.toInt).toNat < (8 - i_2.toInt).toNat; omega)
theorem mw_1_172 : (.fieldLink RX1 33 "HillBends$Hill" "sorts" "I" : Cond) ∈ wsA := wsA_t (List.mem_append_left _ (List.mem_of_getElem? (l := tables_1_1) (i := 172) rfl)) rfl
theorem mw_2_125 : (.fieldLink RX1 9 "HillBends$Choices" "limit" "[I" : Cond) ∈ wsA := wsA_t (List.mem_append_right _ (List.mem_append_left _ (List.mem_of_getElem? (l := tables_1_2) (i := 125) rfl))) rfl
theorem mw_2_126 : (.fieldLink RX1 15 "HillBends$Choices" "gain" "[I" : Cond) ∈ wsA := wsA_t (List.mem_append_right _ (List.mem_append_left _ (List.mem_of_getElem? (l := tables_1_2) (i := 126) rfl))) rfl
theorem mw_5_89 : (.methodLink RX1 95 yJ9_max_7cf53 : Cond) ∈ wsA := wsA_t (List.mem_append_right _ (List.mem_append_right _ (List.mem_append_right _ (List.mem_append_right _ (List.mem_append_left _ (List.mem_of_getElem? (l := tables_1_5) (i := 89) rfl)))))) rfl
theorem dX1_mostGainFrom_0 : decode cX1_mostGainFrom 0 = .ok (.iconst 0, 1) := by decide +kernel
theorem dX1_mostGainFrom_1 : decode cX1_mostGainFrom 1 = .ok (.istore_n 3, 1) := by decide +kernel
theorem dX1_mostGainFrom_2 : decode cX1_mostGainFrom 2 = .ok (.iload_n 2, 1) := by decide +kernel
theorem dX1_mostGainFrom_3 : decode cX1_mostGainFrom 3 = .ok (.istore 4, 2) := by decide +kernel
theorem dX1_mostGainFrom_5 : decode cX1_mostGainFrom 5 = .ok (.iload 4, 2) := by decide +kernel
theorem dX1_mostGainFrom_7 : decode cX1_mostGainFrom 7 = .ok (.aload_n 1, 1) := by decide +kernel
theorem dX1_mostGainFrom_8 : decode cX1_mostGainFrom 8 = .ok (.getfield 33, 3) := by decide +kernel
theorem dX1_mostGainFrom_11 : decode cX1_mostGainFrom 11 = .ok (.if_icmp .ge 31, 3) := by decide +kernel
theorem dX1_mostGainFrom_42 : decode cX1_mostGainFrom 42 = .ok (.iload_n 3, 1) := by decide +kernel
theorem dX1_mostGainFrom_43 : decode cX1_mostGainFrom 43 = .ok (.ireturn, 1) := by decide +kernel
theorem dX1_mostGainFrom_14 : decode cX1_mostGainFrom 14 = .ok (.aload_n 0, 1) := by decide +kernel
theorem dX1_mostGainFrom_15 : decode cX1_mostGainFrom 15 = .ok (.getfield 9, 3) := by decide +kernel
theorem dX1_mostGainFrom_18 : decode cX1_mostGainFrom 18 = .ok (.iload 4, 2) := by decide +kernel
theorem dX1_mostGainFrom_20 : decode cX1_mostGainFrom 20 = .ok (.iaload, 1) := by decide +kernel
theorem dX1_mostGainFrom_21 : decode cX1_mostGainFrom 21 = .ok (.ifCond .le 15, 3) := by decide +kernel
theorem dX1_mostGainFrom_36 : decode cX1_mostGainFrom 36 = .ok (.iinc 4 1, 3) := by decide +kernel
theorem dX1_mostGainFrom_39 : decode cX1_mostGainFrom 39 = .ok (.goto (-34), 3) := by decide +kernel
theorem dX1_mostGainFrom_24 : decode cX1_mostGainFrom 24 = .ok (.iload_n 3, 1) := by decide +kernel
theorem dX1_mostGainFrom_25 : decode cX1_mostGainFrom 25 = .ok (.aload_n 0, 1) := by decide +kernel
theorem dX1_mostGainFrom_26 : decode cX1_mostGainFrom 26 = .ok (.getfield 15, 3) := by decide +kernel
theorem dX1_mostGainFrom_29 : decode cX1_mostGainFrom 29 = .ok (.iload 4, 2) := by decide +kernel
theorem dX1_mostGainFrom_31 : decode cX1_mostGainFrom 31 = .ok (.iaload, 1) := by decide +kernel
theorem dX1_mostGainFrom_32 : decode cX1_mostGainFrom 32 = .ok (.invokestatic 95, 3) := by decide +kernel
theorem dX1_mostGainFrom_35 : decode cX1_mostGainFrom 35 = .ok (.istore_n 3, 1) := by decide +kernel
set_option maxHeartbeats 4000000 in
set_option maxRecDepth 100000 in
theorem cy_X1_mostGainFrom (l : Launch) (D : va_G) (cA : Nat → ClassId) (L : List Nat) (T : Nat → Nat) (r : Rg) (hG : GR L T r) (hL : L.Nodup) (σ : Sg) (ρ : Lg) (hW : WT L ry T σ) (sz : Nat) (h0 : Nat) (mh0 : h0 ∈ L) (th0 : T h0 = 1) (h1 : Nat) (mh1 : h1 ∈ L) (th1 : T h1 = 3) (p2 : Int32) (w0 : 0 ≤ p2.toInt) (w1 : p2.toInt ≤ 5) : Met l yX1_mostGainFrom (.code yX1_mostGainFrom cX1_mostGainFrom 5 (some .int) :: wsA) ({ frames := 1, cells := 0, slots := 0, locals := 40 }) (PR D cA L T r σ ρ sz [.ref h0, .ref h1, .int p2]) (QI D cA L T r ry ([] : List (Nat × Nat)) σ sz (fun x σ1 => True)) 0 0 (dm L sz) := by
  refine Met.ofW (cc := cX1_mostGainFrom) (maxL := 5) (ret := (some .int)) (by decide) rfl ?_
  intro p e s m args below meth c s₁ B hml hv
  obtain ⟨rfl, hsz, hP, hK, hN⟩ := hv
  have hx := B.exec
  have hb := B.bytes
  have hr := B.returns
  have hts : ∀ w ∈ wsA, w.before _ s = true := fun w h => atoms_spec (ws := .code yX1_mostGainFrom cX1_mostGainFrom 5 (some .int) :: wsA) B.pre w (List.mem_cons_of_mem _ h)
  have hown : s.vm.findClass RX1 = some m.cls := findClass_of_methodNamed B.named
  subst hsz
  have hLA : LA (dm L s.heap.size) L := ⟨hL, fun a h => Or.inl h⟩
  have hA : ∀ q : Nat, s.heap.size ≤ q → dm L s.heap.size q := fun q h => Or.inr h
  have hS : va_S (dm L s.heap.size) s.heap s.heap [] := va_S.rf
  have hB : TS D cA L T r ry ([] : List (Nat × Nat)) σ σ ρ s.heap := ⟨hP, hW, FR.rf⟩
  have hl := lv_entry ([.ref h0, .ref h1, .int p2]) (n := 5) (Nat.le_of_ble_eq_true rfl)
  rw [lg_entry_eq]
  generalize (lg_sl ([.ref h0, .ref h1, .int p2]) ++ List.replicate (5 - (lg_sl ([.ref h0, .ref h1, .int p2])).length) Slot.unset).toArray = ls at hl ⊢
  have hl : lv_has ls 5 [(0, .ref h0), (1, .ref h1), (2, .int p2)] := hl
  refine lv_iconst (v := 0) hx hb dX1_mostGainFrom_0 (by decide) ?_
  refine lv_istore_n (lv' := [(3, .int 0), (0, .ref h0), (1, .ref h1), (2, .int p2)]) hx hb dX1_mostGainFrom_1 rfl hl (by decide) rfl (fun ls hl => ?_)
  refine lv_iload_n hx hb dX1_mostGainFrom_2 rfl (lv_at hl 3 rfl) ?_
  refine lv_istore (lv' := [(4, .int p2), (3, .int 0), (0, .ref h0), (1, .ref h1), (2, .int p2)]) hx hb dX1_mostGainFrom_3 hl (by decide) rfl (fun ls hl => ?_)
  refine w_loop (α := Int32 × Int32 × Sg × Lg) (fun (i_1, i_2, σ_3, ρ_4) H locs ls => 0 ≤ i_2.toInt ∧ i_2.toInt ≤ 5 ∧ TS D cA L T r ry ([] : List (Nat × Nat)) σ σ_3 ρ_4 H ∧ va_S (dm L s.heap.size) s.heap H locs ∧ lv_has ls 5 [(4, .int i_2), (3, .int i_1), (0, .ref h0), (1, .ref h1), (2, .int p2)]) (fun (i_1, i_2, σ_3, ρ_4) => (5 - i_2.toInt).toNat) ?_ ⟨0, p2, σ, ρ⟩ ⟨(by omega), (by omega), hB, hS, lv_sub hl [0, 1, 2, 3, 4] rfl⟩
  rintro ⟨i_1, i_2, σ_3, ρ_4⟩ H locs ls ⟨li_2, ui_2, hB, hS, hl⟩ ih_5
  refine lv_iload hx hb dX1_mostGainFrom_5 (lv_at hl 0 rfl) ?_
  refine lv_aload_n hx hb dX1_mostGainFrom_7 rfl (lv_at hl 3 rfl) ?_
  refine t_gi hx hb hts hown hK hB mh1 th1 fi_3_8 rfl mw_1_172 dX1_mostGainFrom_8 (fun x_6 ex_6 lx_6 ux_6 => ?_)
  refine lv_icmp_ge (tgt := 42) hx hb dX1_mostGainFrom_11 (by decide) (fun c_7 => ?_) (fun c_7 => ?_)
  · skip
    have uc_7 := j_le c_7
    refine lv_iload_n hx hb dX1_mostGainFrom_42 rfl (lv_at hl 1 rfl) ?_
    exact W.iret (v := i_1) hx hb hr (fun t ht hW => ⟨⟨i_1, (σ_3, ρ_4), rfl, ⟨hB.2.1, hB.2.2, trivial⟩, (show TP D cA L T r σ_3 ρ_4 t.heap from by rw [ht]; exact hB.1)⟩, hS.F ht⟩) hS.2.2 dX1_mostGainFrom_43
  · skip
    have uc_7 := j_nle c_7
    refine lv_aload_n hx hb dX1_mostGainFrom_14 rfl (lv_at hl 2 rfl) ?_
    refine t_gr hx hb hts hown hK hG hB mh0 th0 fq_1_0 rfl mw_2_125 dX1_mostGainFrom_15 (fun b_8 hb_8 mb_8 tb_8 => ?_)
    refine lv_iload hx hb dX1_mostGainFrom_18 (lv_at hl 0 rfl) ?_
    refine t_ai hx hb hK hB mb_8 tb_8 ai_24 (fun _ => rfl) (i_in (by omega) (by omega)) dX1_mostGainFrom_20 (fun x_9 ex_9 lx_9 ux_9 => ?_)
    refine lv_if_le (tgt := 36) hx hb dX1_mostGainFrom_21 (by decide) (fun c_10 => ?_) (fun c_10 => ?_)
    · skip
      have uc_10 := i_le (n := 0) (by decide) c_10
      obtain ⟨x_11, ex_11⟩ : ∃ y : Int32, y = i_2 + 1 := ⟨_, rfl⟩
      have vx_11 := b_add (rfl : i_2.toInt = _) (by decide : (1 : Int32).toInt = 1) ex_11 (by omega) (by omega)
      refine lv_iinc (v := x_11) (lv' := [(4, .int x_11), (3, .int i_1), (0, .ref h0), (1, .ref h1), (2, .int p2)]) hx hb dX1_mostGainFrom_36 hl (k := 0) rfl (by rw [ex_11]; rfl) (by decide) rfl (fun ls hl => ?_)
      refine lv_goto (tgt := 5) hx hb dX1_mostGainFrom_39 (by decide) ?_
      exact ih_5 ⟨i_1, x_11, σ_3, ρ_4⟩ _ _ _ ⟨(by omega), (by omega), hB, hS, lv_sub hl [0, 1, 2, 3, 4] rfl⟩ (by show (5 - x_11.toInt).toNat < (5 - i_2.toInt).toNat; omega)
    · skip
      have uc_10 := i_nle (n := 0) (by decide) c_10
      refine lv_iload_n hx hb dX1_mostGainFrom_24 rfl (lv_at hl 1 rfl) ?_
      refine lv_aload_n hx hb dX1_mostGainFrom_25 rfl (lv_at hl 2 rfl) ?_
      refine t_gr hx hb hts hown hK hG hB mh0 th0 fq_1_1 rfl mw_2_126 dX1_mostGainFrom_26 (fun b_12 hb_12 mb_12 tb_12 => ?_)
      refine lv_iload hx hb dX1_mostGainFrom_29 (lv_at hl 0 rfl) ?_
      refine t_ai hx hb hK hB mb_12 tb_12 ai_25 (fun _ => rfl) (i_in (by omega) (by omega)) dX1_mostGainFrom_31 (fun x_13 ex_13 lx_13 ux_13 => ?_)
      refine va_mmax hx hb (hml.trans hl.1.symm) hown (hts _ mw_5_89) (hts _ mw_3_120) (hts _ mw_1_18) (hts _ mw_3_121) (Nat.le_of_ble_eq_true rfl) (Nat.le_of_ble_eq_true rfl) (Nat.zero_le _) (Nat.zero_le _) dX1_mostGainFrom_32 ?_
      refine lv_topi (fun x_14 ex_14 => ?_)
      obtain ⟨lx_14, mx_14, ux_14⟩ := m_max (rfl : i_1.toInt = _) (rfl : x_13.toInt = _) ex_14
      refine lv_istore_n (lv' := [(3, .int x_14), (4, .int i_2), (0, .ref h0), (1, .ref h1), (2, .int p2)]) hx hb dX1_mostGainFrom_35 rfl hl (by decide) rfl (fun ls hl => ?_)
      obtain ⟨x_15, ex_15⟩ : ∃ y : Int32, y = i_2 + 1 := ⟨_, rfl⟩
      have vx_15 := b_add (rfl : i_2.toInt = _) (by decide : (1 : Int32).toInt = 1) ex_15 (by omega) (by omega)
      refine lv_iinc (v := x_15) (lv' := [(4, .int x_15), (3, .int x_14), (0, .ref h0), (1, .ref h1), (2, .int p2)]) hx hb dX1_mostGainFrom_36 hl (k := 1) rfl (by rw [ex_15]; rfl) (by decide) rfl (fun ls hl => ?_)
      refine lv_goto (tgt := 5) hx hb dX1_mostGainFrom_39 (by decide) ?_
      exact ih_5 ⟨x_14, x_15, σ_3, ρ_4⟩ _ _ _ ⟨(by omega), (by omega), hB, hS, lv_sub hl [0, 1, 2, 3, 4] rfl⟩ (by show (5 - x_15.toInt).toNat < (5 - i_2.toInt).toNat; omega)
theorem mw_2_128 : (.fieldLink RX1 21 "HillBends$Choices" "best" "[I" : Cond) ∈ wsA := wsA_t (List.mem_append_right _ (List.mem_append_left _ (List.mem_of_getElem? (l := tables_1_2) (i := 128) rfl))) rfl
theorem mw_1_137 : (.fieldLink RX1 39 "HillBends$Hill" "worth" "[I" : Cond) ∈ wsA := wsA_t (List.mem_append_left _ (List.mem_of_getElem? (l := tables_1_1) (i := 137) rfl)) rfl
theorem dX1_worthOfBest_0 : decode cX1_worthOfBest 0 = .ok (.iconst 0, 1) := by decide +kernel
theorem dX1_worthOfBest_1 : decode cX1_worthOfBest 1 = .ok (.istore_n 2, 1) := by decide +kernel
theorem dX1_worthOfBest_2 : decode cX1_worthOfBest 2 = .ok (.iconst 0, 1) := by decide +kernel
theorem dX1_worthOfBest_3 : decode cX1_worthOfBest 3 = .ok (.istore_n 3, 1) := by decide +kernel
theorem dX1_worthOfBest_4 : decode cX1_worthOfBest 4 = .ok (.iload_n 3, 1) := by decide +kernel
theorem dX1_worthOfBest_5 : decode cX1_worthOfBest 5 = .ok (.aload_n 1, 1) := by decide +kernel
theorem dX1_worthOfBest_6 : decode cX1_worthOfBest 6 = .ok (.getfield 33, 3) := by decide +kernel
theorem dX1_worthOfBest_9 : decode cX1_worthOfBest 9 = .ok (.if_icmp .ge 25, 3) := by decide +kernel
theorem dX1_worthOfBest_34 : decode cX1_worthOfBest 34 = .ok (.iload_n 2, 1) := by decide +kernel
theorem dX1_worthOfBest_35 : decode cX1_worthOfBest 35 = .ok (.ireturn, 1) := by decide +kernel
theorem dX1_worthOfBest_12 : decode cX1_worthOfBest 12 = .ok (.iload_n 2, 1) := by decide +kernel
theorem dX1_worthOfBest_13 : decode cX1_worthOfBest 13 = .ok (.aload_n 0, 1) := by decide +kernel
theorem dX1_worthOfBest_14 : decode cX1_worthOfBest 14 = .ok (.getfield 21, 3) := by decide +kernel
theorem dX1_worthOfBest_17 : decode cX1_worthOfBest 17 = .ok (.iload_n 3, 1) := by decide +kernel
theorem dX1_worthOfBest_18 : decode cX1_worthOfBest 18 = .ok (.iaload, 1) := by decide +kernel
theorem dX1_worthOfBest_19 : decode cX1_worthOfBest 19 = .ok (.aload_n 1, 1) := by decide +kernel
theorem dX1_worthOfBest_20 : decode cX1_worthOfBest 20 = .ok (.getfield 39, 3) := by decide +kernel
theorem dX1_worthOfBest_23 : decode cX1_worthOfBest 23 = .ok (.iload_n 3, 1) := by decide +kernel
theorem dX1_worthOfBest_24 : decode cX1_worthOfBest 24 = .ok (.iaload, 1) := by decide +kernel
theorem dX1_worthOfBest_25 : decode cX1_worthOfBest 25 = .ok (.imul, 1) := by decide +kernel
theorem dX1_worthOfBest_26 : decode cX1_worthOfBest 26 = .ok (.iadd, 1) := by decide +kernel
theorem dX1_worthOfBest_27 : decode cX1_worthOfBest 27 = .ok (.istore_n 2, 1) := by decide +kernel
theorem dX1_worthOfBest_28 : decode cX1_worthOfBest 28 = .ok (.iinc 3 1, 3) := by decide +kernel
theorem dX1_worthOfBest_31 : decode cX1_worthOfBest 31 = .ok (.goto (-27), 3) := by decide +kernel
set_option maxHeartbeats 4000000 in
set_option maxRecDepth 100000 in
theorem cy_X1_worthOfBest (l : Launch) (D : va_G) (cA : Nat → ClassId) (L : List Nat) (T : Nat → Nat) (r : Rg) (hG : GR L T r) (hL : L.Nodup) (σ : Sg) (ρ : Lg) (hW : WT L ry T σ) (sz : Nat) (h0 : Nat) (mh0 : h0 ∈ L) (th0 : T h0 = 1) (h1 : Nat) (mh1 : h1 ∈ L) (th1 : T h1 = 3) : Met l yX1_worthOfBest (.code yX1_worthOfBest cX1_worthOfBest 4 (some .int) :: wsA) ({ frames := 0, cells := 0, slots := 0, locals := 0 }) (PR D cA L T r σ ρ sz [.ref h0, .ref h1]) (QI D cA L T r ry ([] : List (Nat × Nat)) σ sz (fun x σ1 => True)) 0 0 (dm L sz) := by
  refine Met.ofW (cc := cX1_worthOfBest) (maxL := 4) (ret := (some .int)) (by decide) rfl ?_
  intro p e s m args below meth c s₁ B hml hv
  obtain ⟨rfl, hsz, hP, hK, hN⟩ := hv
  have hx := B.exec
  have hb := B.bytes
  have hr := B.returns
  have hts : ∀ w ∈ wsA, w.before _ s = true := fun w h => atoms_spec (ws := .code yX1_worthOfBest cX1_worthOfBest 4 (some .int) :: wsA) B.pre w (List.mem_cons_of_mem _ h)
  have hown : s.vm.findClass RX1 = some m.cls := findClass_of_methodNamed B.named
  subst hsz
  have hLA : LA (dm L s.heap.size) L := ⟨hL, fun a h => Or.inl h⟩
  have hA : ∀ q : Nat, s.heap.size ≤ q → dm L s.heap.size q := fun q h => Or.inr h
  have hS : va_S (dm L s.heap.size) s.heap s.heap [] := va_S.rf
  have hB : TS D cA L T r ry ([] : List (Nat × Nat)) σ σ ρ s.heap := ⟨hP, hW, FR.rf⟩
  have hl := lv_entry ([.ref h0, .ref h1]) (n := 4) (Nat.le_of_ble_eq_true rfl)
  rw [lg_entry_eq]
  generalize (lg_sl ([.ref h0, .ref h1]) ++ List.replicate (4 - (lg_sl ([.ref h0, .ref h1])).length) Slot.unset).toArray = ls at hl ⊢
  have hl : lv_has ls 4 [(0, .ref h0), (1, .ref h1)] := hl
  refine lv_iconst (v := 0) hx hb dX1_worthOfBest_0 (by decide) ?_
  refine lv_istore_n (lv' := [(2, .int 0), (0, .ref h0), (1, .ref h1)]) hx hb dX1_worthOfBest_1 rfl hl (by decide) rfl (fun ls hl => ?_)
  refine lv_iconst (v := 0) hx hb dX1_worthOfBest_2 (by decide) ?_
  refine lv_istore_n (lv' := [(3, .int 0), (2, .int 0), (0, .ref h0), (1, .ref h1)]) hx hb dX1_worthOfBest_3 rfl hl (by decide) rfl (fun ls hl => ?_)
  refine w_loop (α := Int32 × Int32 × Sg × Lg) (fun (i_1, i_2, σ_3, ρ_4) H locs ls => 0 ≤ i_2.toInt ∧ i_2.toInt ≤ 5 ∧ TS D cA L T r ry ([] : List (Nat × Nat)) σ σ_3 ρ_4 H ∧ va_S (dm L s.heap.size) s.heap H locs ∧ lv_has ls 4 [(3, .int i_2), (2, .int i_1), (0, .ref h0), (1, .ref h1)]) (fun (i_1, i_2, σ_3, ρ_4) => (5 - i_2.toInt).toNat) ?_ ⟨0, 0, σ, ρ⟩ ⟨(by decide), (by decide), hB, hS, lv_sub hl [0, 1, 2, 3] rfl⟩
  rintro ⟨i_1, i_2, σ_3, ρ_4⟩ H locs ls ⟨li_2, ui_2, hB, hS, hl⟩ ih_5
  refine lv_iload_n hx hb dX1_worthOfBest_4 rfl (lv_at hl 0 rfl) ?_
  refine lv_aload_n hx hb dX1_worthOfBest_5 rfl (lv_at hl 3 rfl) ?_
  refine t_gi hx hb hts hown hK hB mh1 th1 fi_3_8 rfl mw_1_172 dX1_worthOfBest_6 (fun x_6 ex_6 lx_6 ux_6 => ?_)
  refine lv_icmp_ge (tgt := 34) hx hb dX1_worthOfBest_9 (by decide) (fun c_7 => ?_) (fun c_7 => ?_)
  · skip
    have uc_7 := j_le c_7
    refine lv_iload_n hx hb dX1_worthOfBest_34 rfl (lv_at hl 1 rfl) ?_
    exact W.iret (v := i_1) hx hb hr (fun t ht hW => ⟨⟨i_1, (σ_3, ρ_4), rfl, ⟨hB.2.1, hB.2.2, trivial⟩, (show TP D cA L T r σ_3 ρ_4 t.heap from by rw [ht]; exact hB.1)⟩, hS.F ht⟩) hS.2.2 dX1_worthOfBest_35
  · skip
    have uc_7 := j_nle c_7
    refine lv_iload_n hx hb dX1_worthOfBest_12 rfl (lv_at hl 1 rfl) ?_
    refine lv_aload_n hx hb dX1_worthOfBest_13 rfl (lv_at hl 2 rfl) ?_
    refine t_gr hx hb hts hown hK hG hB mh0 th0 fq_1_3 rfl mw_2_128 dX1_worthOfBest_14 (fun b_8 hb_8 mb_8 tb_8 => ?_)
    refine lv_iload_n hx hb dX1_worthOfBest_17 rfl (lv_at hl 0 rfl) ?_
    refine t_ai hx hb hK hB mb_8 tb_8 ai_27 (fun _ => rfl) (i_in (by omega) (by omega)) dX1_worthOfBest_18 (fun x_9 ex_9 lx_9 ux_9 => ?_)
    refine lv_aload_n hx hb dX1_worthOfBest_19 rfl (lv_at hl 3 rfl) ?_
    refine t_gr hx hb hts hown hK hG hB mh1 th1 fq_3_1 rfl mw_1_137 dX1_worthOfBest_20 (fun b_10 hb_10 mb_10 tb_10 => ?_)
    refine lv_iload_n hx hb dX1_worthOfBest_23 rfl (lv_at hl 0 rfl) ?_
    refine t_ai hx hb hK hB mb_10 tb_10 ai_34 (fun _ => rfl) (i_in (by omega) (by omega)) dX1_worthOfBest_24 (fun x_11 ex_11 lx_11 ux_11 => ?_)
    refine lv_imul hx hb dX1_worthOfBest_25 ?_
    refine lv_topi (fun x_12 ex_12 => ?_)
    refine lv_iadd hx hb dX1_worthOfBest_26 ?_
    refine lv_topi (fun x_13 ex_13 => ?_)
    refine lv_istore_n (lv' := [(2, .int x_13), (3, .int i_2), (0, .ref h0), (1, .ref h1)]) hx hb dX1_worthOfBest_27 rfl hl (by decide) rfl (fun ls hl => ?_)
    obtain ⟨x_14, ex_14⟩ : ∃ y : Int32, y = i_2 + 1 := ⟨_, rfl⟩
    have vx_14 := b_add (rfl : i_2.toInt = _) (by decide : (1 : Int32).toInt = 1) ex_14 (by omega) (by omega)
    refine lv_iinc (v := x_14) (lv' := [(3, .int x_14), (2, .int x_13), (0, .ref h0), (1, .ref h1)]) hx hb dX1_worthOfBest_28 hl (k := 1) rfl (by rw [ex_14]; rfl) (by decide) rfl (fun ls hl => ?_)
    refine lv_goto (tgt := 4) hx hb dX1_worthOfBest_31 (by decide) ?_
    exact ih_5 ⟨x_13, x_14, σ_3, ρ_4⟩ _ _ _ ⟨(by omega), (by omega), hB, hS, lv_sub hl [0, 1, 2, 3] rfl⟩ (by show (5 - x_14.toInt).toNat < (5 - i_2.toInt).toNat; omega)
theorem mw_2_210 : (.fieldLink RX11 32 "HillBends" "world" "LHillBends$World;" : Cond) ∈ wsA := wsA_t (List.mem_append_right _ (List.mem_append_left _ (List.mem_of_getElem? (l := tables_1_2) (i := 210) rfl))) rfl
theorem mw_1_236 : (.fieldLink RX11 102 "HillBends$World" "hill" "LHillBends$Hill;" : Cond) ∈ wsA := wsA_t (List.mem_append_left _ (List.mem_of_getElem? (l := tables_1_1) (i := 236) rfl)) rfl
theorem mw_1_189 : (.fieldLink RX11 281 "HillBends$Hill" "pilgrims" "I" : Cond) ∈ wsA := wsA_t (List.mem_append_left _ (List.mem_of_getElem? (l := tables_1_1) (i := 189) rfl)) rfl
theorem dX11_isPilgrim_0 : decode cX11_isPilgrim 0 = .ok (.iload_n 1, 1) := by decide +kernel
theorem dX11_isPilgrim_1 : decode cX11_isPilgrim 1 = .ok (.ifCond .lt 21, 3) := by decide +kernel
theorem dX11_isPilgrim_22 : decode cX11_isPilgrim 22 = .ok (.iconst 0, 1) := by decide +kernel
theorem dX11_isPilgrim_23 : decode cX11_isPilgrim 23 = .ok (.ireturn, 1) := by decide +kernel
theorem dX11_isPilgrim_4 : decode cX11_isPilgrim 4 = .ok (.iload_n 1, 1) := by decide +kernel
theorem dX11_isPilgrim_5 : decode cX11_isPilgrim 5 = .ok (.aload_n 0, 1) := by decide +kernel
theorem dX11_isPilgrim_6 : decode cX11_isPilgrim 6 = .ok (.getfield 32, 3) := by decide +kernel
theorem dX11_isPilgrim_9 : decode cX11_isPilgrim 9 = .ok (.getfield 102, 3) := by decide +kernel
theorem dX11_isPilgrim_12 : decode cX11_isPilgrim 12 = .ok (.getfield 281, 3) := by decide +kernel
theorem dX11_isPilgrim_15 : decode cX11_isPilgrim 15 = .ok (.if_icmp .ge 7, 3) := by decide +kernel
theorem dX11_isPilgrim_18 : decode cX11_isPilgrim 18 = .ok (.iconst 1, 1) := by decide +kernel
theorem dX11_isPilgrim_19 : decode cX11_isPilgrim 19 = .ok (.goto 4, 3) := by decide +kernel
set_option maxHeartbeats 4000000 in
set_option maxRecDepth 100000 in
theorem cy_X11_isPilgrim (l : Launch) (D : va_G) (cA : Nat → ClassId) (L : List Nat) (T : Nat → Nat) (r : Rg) (hG : GR L T r) (hL : L.Nodup) (σ : Sg) (ρ : Lg) (hW : WT L ry T σ) (sz : Nat) (h0 : Nat) (mh0 : h0 ∈ L) (th0 : T h0 = 11) (p1 : Int32) : Met l yX11_isPilgrim (.code yX11_isPilgrim cX11_isPilgrim 2 (some .boolean) :: wsA) ({ frames := 0, cells := 0, slots := 0, locals := 0 }) (PR D cA L T r σ ρ sz [.ref h0, .int p1]) (QI D cA L T r ry ([] : List (Nat × Nat)) σ sz (fun x σ1 => ((x.toInt = 0 ∨ x.toInt = 1) ∧ (x.toInt = 1 → 0 ≤ p1.toInt ∧ p1.toInt ≤ 3)))) 0 0 (dm L sz) := by
  refine Met.ofW (cc := cX11_isPilgrim) (maxL := 2) (ret := (some .boolean)) (by decide) rfl ?_
  intro p e s m args below meth c s₁ B hml hv
  obtain ⟨rfl, hsz, hP, hK, hN⟩ := hv
  have hx := B.exec
  have hb := B.bytes
  have hr := B.returns
  have hts : ∀ w ∈ wsA, w.before _ s = true := fun w h => atoms_spec (ws := .code yX11_isPilgrim cX11_isPilgrim 2 (some .boolean) :: wsA) B.pre w (List.mem_cons_of_mem _ h)
  have hown : s.vm.findClass RX11 = some m.cls := findClass_of_methodNamed B.named
  subst hsz
  have hLA : LA (dm L s.heap.size) L := ⟨hL, fun a h => Or.inl h⟩
  have hA : ∀ q : Nat, s.heap.size ≤ q → dm L s.heap.size q := fun q h => Or.inr h
  have hS : va_S (dm L s.heap.size) s.heap s.heap [] := va_S.rf
  have hB : TS D cA L T r ry ([] : List (Nat × Nat)) σ σ ρ s.heap := ⟨hP, hW, FR.rf⟩
  have hl := lv_entry ([.ref h0, .int p1]) (n := 2) (Nat.le_of_ble_eq_true rfl)
  rw [lg_entry_eq]
  generalize (lg_sl ([.ref h0, .int p1]) ++ List.replicate (2 - (lg_sl ([.ref h0, .int p1])).length) Slot.unset).toArray = ls at hl ⊢
  have hl : lv_has ls 2 [(0, .ref h0), (1, .int p1)] := hl
  refine lv_iload_n hx hb dX11_isPilgrim_0 rfl (lv_at hl 1 rfl) ?_
  refine lv_if_lt (tgt := 22) hx hb dX11_isPilgrim_1 (by decide) (fun c_1 => ?_) (fun c_1 => ?_)
  · skip
    have uc_1 := i_lt (n := 0) (by decide) c_1
    refine lv_iconst (v := 0) hx hb dX11_isPilgrim_22 (by decide) ?_
    exact W.zret (v := 0) hx hb hr rfl (fun t ht hW => ⟨⟨0, (σ, ρ), rfl, ⟨hB.2.1, hB.2.2, (show ((0 : Int32).toInt = 0 ∨ (0 : Int32).toInt = 1) ∧ ((0 : Int32).toInt = 1 → 0 ≤ p1.toInt ∧ p1.toInt ≤ 3) from ⟨Or.inl (by decide), fun h => absurd h (by decide)⟩)⟩, (show TP D cA L T r σ ρ t.heap from by rw [ht]; exact hB.1)⟩, hS.F ht⟩) hS.2.2 dX11_isPilgrim_23
  · skip
    have uc_1 := i_nlt (n := 0) (by decide) c_1
    refine lv_iload_n hx hb dX11_isPilgrim_4 rfl (lv_at hl 1 rfl) ?_
    refine lv_aload_n hx hb dX11_isPilgrim_5 rfl (lv_at hl 0 rfl) ?_
    refine t_gr hx hb hts hown hK hG hB mh0 th0 fq_11_3 rfl mw_2_210 dX11_isPilgrim_6 (fun b_2 hb_2 mb_2 tb_2 => ?_)
    refine t_gr hx hb hts hown hK hG hB mb_2 tb_2 fq_10_0 rfl mw_1_236 dX11_isPilgrim_9 (fun b_3 hb_3 mb_3 tb_3 => ?_)
    refine t_gi hx hb hts hown hK hB mb_3 tb_3 fi_3_10 rfl mw_1_189 dX11_isPilgrim_12 (fun x_4 ex_4 lx_4 ux_4 => ?_)
    refine lv_icmp_ge (tgt := 22) hx hb dX11_isPilgrim_15 (by decide) (fun c_5 => ?_) (fun c_5 => ?_)
    · skip
      have uc_5 := j_le c_5
      refine lv_iconst (v := 0) hx hb dX11_isPilgrim_22 (by decide) ?_
      exact W.zret (v := 0) hx hb hr rfl (fun t ht hW => ⟨⟨0, (σ, ρ), rfl, ⟨hB.2.1, hB.2.2, (show ((0 : Int32).toInt = 0 ∨ (0 : Int32).toInt = 1) ∧ ((0 : Int32).toInt = 1 → 0 ≤ p1.toInt ∧ p1.toInt ≤ 3) from ⟨Or.inl (by decide), fun h => absurd h (by decide)⟩)⟩, (show TP D cA L T r σ ρ t.heap from by rw [ht]; exact hB.1)⟩, hS.F ht⟩) hS.2.2 dX11_isPilgrim_23
    · skip
      have uc_5 := j_nle c_5
      refine lv_iconst (v := 1) hx hb dX11_isPilgrim_18 (by decide) ?_
      refine lv_goto (tgt := 23) hx hb dX11_isPilgrim_19 (by decide) ?_
      exact W.zret (v := 1) hx hb hr rfl (fun t ht hW => ⟨⟨1, (σ, ρ), rfl, ⟨hB.2.1, hB.2.2, (show ((1 : Int32).toInt = 0 ∨ (1 : Int32).toInt = 1) ∧ ((1 : Int32).toInt = 1 → 0 ≤ p1.toInt ∧ p1.toInt ≤ 3) from ⟨Or.inr (by decide), fun _ => by omega⟩)⟩, (show TP D cA L T r σ ρ t.heap from by rw [ht]; exact hB.1)⟩, hS.F ht⟩) hS.2.2 dX11_isPilgrim_23
theorem mw_1_182 : (.fieldLink RX11 105 "HillBends$Hill" "bends" "I" : Cond) ∈ wsA := wsA_t (List.mem_append_left _ (List.mem_of_getElem? (l := tables_1_1) (i := 182) rfl)) rfl
theorem dX11_isBend_0 : decode cX11_isBend 0 = .ok (.iload_n 1, 1) := by decide +kernel
theorem dX11_isBend_1 : decode cX11_isBend 1 = .ok (.ifCond .lt 21, 3) := by decide +kernel
theorem dX11_isBend_22 : decode cX11_isBend 22 = .ok (.iconst 0, 1) := by decide +kernel
theorem dX11_isBend_23 : decode cX11_isBend 23 = .ok (.ireturn, 1) := by decide +kernel
theorem dX11_isBend_4 : decode cX11_isBend 4 = .ok (.iload_n 1, 1) := by decide +kernel
theorem dX11_isBend_5 : decode cX11_isBend 5 = .ok (.aload_n 0, 1) := by decide +kernel
theorem dX11_isBend_6 : decode cX11_isBend 6 = .ok (.getfield 32, 3) := by decide +kernel
theorem dX11_isBend_9 : decode cX11_isBend 9 = .ok (.getfield 102, 3) := by decide +kernel
theorem dX11_isBend_12 : decode cX11_isBend 12 = .ok (.getfield 105, 3) := by decide +kernel
theorem dX11_isBend_15 : decode cX11_isBend 15 = .ok (.if_icmp .ge 7, 3) := by decide +kernel
theorem dX11_isBend_18 : decode cX11_isBend 18 = .ok (.iconst 1, 1) := by decide +kernel
theorem dX11_isBend_19 : decode cX11_isBend 19 = .ok (.goto 4, 3) := by decide +kernel
set_option maxHeartbeats 4000000 in
set_option maxRecDepth 100000 in
theorem cy_X11_isBend (l : Launch) (D : va_G) (cA : Nat → ClassId) (L : List Nat) (T : Nat → Nat) (r : Rg) (hG : GR L T r) (hL : L.Nodup) (σ : Sg) (ρ : Lg) (hW : WT L ry T σ) (sz : Nat) (h0 : Nat) (mh0 : h0 ∈ L) (th0 : T h0 = 11) (p1 : Int32) : Met l yX11_isBend (.code yX11_isBend cX11_isBend 2 (some .boolean) :: wsA) ({ frames := 0, cells := 0, slots := 0, locals := 0 }) (PR D cA L T r σ ρ sz [.ref h0, .int p1]) (QI D cA L T r ry ([] : List (Nat × Nat)) σ sz (fun x σ1 => ((x.toInt = 0 ∨ x.toInt = 1) ∧ (x.toInt = 1 → 0 ≤ p1.toInt ∧ p1.toInt ≤ 7)))) 0 0 (dm L sz) := by
  refine Met.ofW (cc := cX11_isBend) (maxL := 2) (ret := (some .boolean)) (by decide) rfl ?_
  intro p e s m args below meth c s₁ B hml hv
  obtain ⟨rfl, hsz, hP, hK, hN⟩ := hv
  have hx := B.exec
  have hb := B.bytes
  have hr := B.returns
  have hts : ∀ w ∈ wsA, w.before _ s = true := fun w h => atoms_spec (ws := .code yX11_isBend cX11_isBend 2 (some .boolean) :: wsA) B.pre w (List.mem_cons_of_mem _ h)
  have hown : s.vm.findClass RX11 = some m.cls := findClass_of_methodNamed B.named
  subst hsz
  have hLA : LA (dm L s.heap.size) L := ⟨hL, fun a h => Or.inl h⟩
  have hA : ∀ q : Nat, s.heap.size ≤ q → dm L s.heap.size q := fun q h => Or.inr h
  have hS : va_S (dm L s.heap.size) s.heap s.heap [] := va_S.rf
  have hB : TS D cA L T r ry ([] : List (Nat × Nat)) σ σ ρ s.heap := ⟨hP, hW, FR.rf⟩
  have hl := lv_entry ([.ref h0, .int p1]) (n := 2) (Nat.le_of_ble_eq_true rfl)
  rw [lg_entry_eq]
  generalize (lg_sl ([.ref h0, .int p1]) ++ List.replicate (2 - (lg_sl ([.ref h0, .int p1])).length) Slot.unset).toArray = ls at hl ⊢
  have hl : lv_has ls 2 [(0, .ref h0), (1, .int p1)] := hl
  refine lv_iload_n hx hb dX11_isBend_0 rfl (lv_at hl 1 rfl) ?_
  refine lv_if_lt (tgt := 22) hx hb dX11_isBend_1 (by decide) (fun c_1 => ?_) (fun c_1 => ?_)
  · skip
    have uc_1 := i_lt (n := 0) (by decide) c_1
    refine lv_iconst (v := 0) hx hb dX11_isBend_22 (by decide) ?_
    exact W.zret (v := 0) hx hb hr rfl (fun t ht hW => ⟨⟨0, (σ, ρ), rfl, ⟨hB.2.1, hB.2.2, (show ((0 : Int32).toInt = 0 ∨ (0 : Int32).toInt = 1) ∧ ((0 : Int32).toInt = 1 → 0 ≤ p1.toInt ∧ p1.toInt ≤ 7) from ⟨Or.inl (by decide), fun h => absurd h (by decide)⟩)⟩, (show TP D cA L T r σ ρ t.heap from by rw [ht]; exact hB.1)⟩, hS.F ht⟩) hS.2.2 dX11_isBend_23
  · skip
    have uc_1 := i_nlt (n := 0) (by decide) c_1
    refine lv_iload_n hx hb dX11_isBend_4 rfl (lv_at hl 1 rfl) ?_
    refine lv_aload_n hx hb dX11_isBend_5 rfl (lv_at hl 0 rfl) ?_
    refine t_gr hx hb hts hown hK hG hB mh0 th0 fq_11_3 rfl mw_2_210 dX11_isBend_6 (fun b_2 hb_2 mb_2 tb_2 => ?_)
    refine t_gr hx hb hts hown hK hG hB mb_2 tb_2 fq_10_0 rfl mw_1_236 dX11_isBend_9 (fun b_3 hb_3 mb_3 tb_3 => ?_)
    refine t_gi hx hb hts hown hK hB mb_3 tb_3 fi_3_9 rfl mw_1_182 dX11_isBend_12 (fun x_4 ex_4 lx_4 ux_4 => ?_)
    refine lv_icmp_ge (tgt := 22) hx hb dX11_isBend_15 (by decide) (fun c_5 => ?_) (fun c_5 => ?_)
    · skip
      have uc_5 := j_le c_5
      refine lv_iconst (v := 0) hx hb dX11_isBend_22 (by decide) ?_
      exact W.zret (v := 0) hx hb hr rfl (fun t ht hW => ⟨⟨0, (σ, ρ), rfl, ⟨hB.2.1, hB.2.2, (show ((0 : Int32).toInt = 0 ∨ (0 : Int32).toInt = 1) ∧ ((0 : Int32).toInt = 1 → 0 ≤ p1.toInt ∧ p1.toInt ≤ 7) from ⟨Or.inl (by decide), fun h => absurd h (by decide)⟩)⟩, (show TP D cA L T r σ ρ t.heap from by rw [ht]; exact hB.1)⟩, hS.F ht⟩) hS.2.2 dX11_isBend_23
    · skip
      have uc_5 := j_nle c_5
      refine lv_iconst (v := 1) hx hb dX11_isBend_18 (by decide) ?_
      refine lv_goto (tgt := 23) hx hb dX11_isBend_19 (by decide) ?_
      exact W.zret (v := 1) hx hb hr rfl (fun t ht hW => ⟨⟨1, (σ, ρ), rfl, ⟨hB.2.1, hB.2.2, (show ((1 : Int32).toInt = 0 ∨ (1 : Int32).toInt = 1) ∧ ((1 : Int32).toInt = 1 → 0 ≤ p1.toInt ∧ p1.toInt ≤ 7) from ⟨Or.inr (by decide), fun _ => by omega⟩)⟩, (show TP D cA L T r σ ρ t.heap from by rw [ht]; exact hB.1)⟩, hS.F ht⟩) hS.2.2 dX11_isBend_23
theorem mw_1_177 : (.fieldLink RX11 350 "HillBends$Hill" "sorts" "I" : Cond) ∈ wsA := wsA_t (List.mem_append_left _ (List.mem_of_getElem? (l := tables_1_1) (i := 177) rfl)) rfl
theorem dX11_isSort_0 : decode cX11_isSort 0 = .ok (.iload_n 1, 1) := by decide +kernel
theorem dX11_isSort_1 : decode cX11_isSort 1 = .ok (.ifCond .lt 21, 3) := by decide +kernel
theorem dX11_isSort_22 : decode cX11_isSort 22 = .ok (.iconst 0, 1) := by decide +kernel
theorem dX11_isSort_23 : decode cX11_isSort 23 = .ok (.ireturn, 1) := by decide +kernel
theorem dX11_isSort_4 : decode cX11_isSort 4 = .ok (.iload_n 1, 1) := by decide +kernel
theorem dX11_isSort_5 : decode cX11_isSort 5 = .ok (.aload_n 0, 1) := by decide +kernel
theorem dX11_isSort_6 : decode cX11_isSort 6 = .ok (.getfield 32, 3) := by decide +kernel
theorem dX11_isSort_9 : decode cX11_isSort 9 = .ok (.getfield 102, 3) := by decide +kernel
theorem dX11_isSort_12 : decode cX11_isSort 12 = .ok (.getfield 350, 3) := by decide +kernel
theorem dX11_isSort_15 : decode cX11_isSort 15 = .ok (.if_icmp .ge 7, 3) := by decide +kernel
theorem dX11_isSort_18 : decode cX11_isSort 18 = .ok (.iconst 1, 1) := by decide +kernel
theorem dX11_isSort_19 : decode cX11_isSort 19 = .ok (.goto 4, 3) := by decide +kernel
set_option maxHeartbeats 4000000 in
set_option maxRecDepth 100000 in
theorem cy_X11_isSort (l : Launch) (D : va_G) (cA : Nat → ClassId) (L : List Nat) (T : Nat → Nat) (r : Rg) (hG : GR L T r) (hL : L.Nodup) (σ : Sg) (ρ : Lg) (hW : WT L ry T σ) (sz : Nat) (h0 : Nat) (mh0 : h0 ∈ L) (th0 : T h0 = 11) (p1 : Int32) : Met l yX11_isSort (.code yX11_isSort cX11_isSort 2 (some .boolean) :: wsA) ({ frames := 0, cells := 0, slots := 0, locals := 0 }) (PR D cA L T r σ ρ sz [.ref h0, .int p1]) (QI D cA L T r ry ([] : List (Nat × Nat)) σ sz (fun x σ1 => ((x.toInt = 0 ∨ x.toInt = 1) ∧ (x.toInt = 1 → 0 ≤ p1.toInt ∧ p1.toInt ≤ 4)))) 0 0 (dm L sz) := by
  refine Met.ofW (cc := cX11_isSort) (maxL := 2) (ret := (some .boolean)) (by decide) rfl ?_
  intro p e s m args below meth c s₁ B hml hv
  obtain ⟨rfl, hsz, hP, hK, hN⟩ := hv
  have hx := B.exec
  have hb := B.bytes
  have hr := B.returns
  have hts : ∀ w ∈ wsA, w.before _ s = true := fun w h => atoms_spec (ws := .code yX11_isSort cX11_isSort 2 (some .boolean) :: wsA) B.pre w (List.mem_cons_of_mem _ h)
  have hown : s.vm.findClass RX11 = some m.cls := findClass_of_methodNamed B.named
  subst hsz
  have hLA : LA (dm L s.heap.size) L := ⟨hL, fun a h => Or.inl h⟩
  have hA : ∀ q : Nat, s.heap.size ≤ q → dm L s.heap.size q := fun q h => Or.inr h
  have hS : va_S (dm L s.heap.size) s.heap s.heap [] := va_S.rf
  have hB : TS D cA L T r ry ([] : List (Nat × Nat)) σ σ ρ s.heap := ⟨hP, hW, FR.rf⟩
  have hl := lv_entry ([.ref h0, .int p1]) (n := 2) (Nat.le_of_ble_eq_true rfl)
  rw [lg_entry_eq]
  generalize (lg_sl ([.ref h0, .int p1]) ++ List.replicate (2 - (lg_sl ([.ref h0, .int p1])).length) Slot.unset).toArray = ls at hl ⊢
  have hl : lv_has ls 2 [(0, .ref h0), (1, .int p1)] := hl
  refine lv_iload_n hx hb dX11_isSort_0 rfl (lv_at hl 1 rfl) ?_
  refine lv_if_lt (tgt := 22) hx hb dX11_isSort_1 (by decide) (fun c_1 => ?_) (fun c_1 => ?_)
  · skip
    have uc_1 := i_lt (n := 0) (by decide) c_1
    refine lv_iconst (v := 0) hx hb dX11_isSort_22 (by decide) ?_
    exact W.zret (v := 0) hx hb hr rfl (fun t ht hW => ⟨⟨0, (σ, ρ), rfl, ⟨hB.2.1, hB.2.2, (show ((0 : Int32).toInt = 0 ∨ (0 : Int32).toInt = 1) ∧ ((0 : Int32).toInt = 1 → 0 ≤ p1.toInt ∧ p1.toInt ≤ 4) from ⟨Or.inl (by decide), fun h => absurd h (by decide)⟩)⟩, (show TP D cA L T r σ ρ t.heap from by rw [ht]; exact hB.1)⟩, hS.F ht⟩) hS.2.2 dX11_isSort_23
  · skip
    have uc_1 := i_nlt (n := 0) (by decide) c_1
    refine lv_iload_n hx hb dX11_isSort_4 rfl (lv_at hl 1 rfl) ?_
    refine lv_aload_n hx hb dX11_isSort_5 rfl (lv_at hl 0 rfl) ?_
    refine t_gr hx hb hts hown hK hG hB mh0 th0 fq_11_3 rfl mw_2_210 dX11_isSort_6 (fun b_2 hb_2 mb_2 tb_2 => ?_)
    refine t_gr hx hb hts hown hK hG hB mb_2 tb_2 fq_10_0 rfl mw_1_236 dX11_isSort_9 (fun b_3 hb_3 mb_3 tb_3 => ?_)
    refine t_gi hx hb hts hown hK hB mb_3 tb_3 fi_3_8 rfl mw_1_177 dX11_isSort_12 (fun x_4 ex_4 lx_4 ux_4 => ?_)
    refine lv_icmp_ge (tgt := 22) hx hb dX11_isSort_15 (by decide) (fun c_5 => ?_) (fun c_5 => ?_)
    · skip
      have uc_5 := j_le c_5
      refine lv_iconst (v := 0) hx hb dX11_isSort_22 (by decide) ?_
      exact W.zret (v := 0) hx hb hr rfl (fun t ht hW => ⟨⟨0, (σ, ρ), rfl, ⟨hB.2.1, hB.2.2, (show ((0 : Int32).toInt = 0 ∨ (0 : Int32).toInt = 1) ∧ ((0 : Int32).toInt = 1 → 0 ≤ p1.toInt ∧ p1.toInt ≤ 4) from ⟨Or.inl (by decide), fun h => absurd h (by decide)⟩)⟩, (show TP D cA L T r σ ρ t.heap from by rw [ht]; exact hB.1)⟩, hS.F ht⟩) hS.2.2 dX11_isSort_23
    · skip
      have uc_5 := j_nle c_5
      refine lv_iconst (v := 1) hx hb dX11_isSort_18 (by decide) ?_
      refine lv_goto (tgt := 23) hx hb dX11_isSort_19 (by decide) ?_
      exact W.zret (v := 1) hx hb hr rfl (fun t ht hW => ⟨⟨1, (σ, ρ), rfl, ⟨hB.2.1, hB.2.2, (show ((1 : Int32).toInt = 0 ∨ (1 : Int32).toInt = 1) ∧ ((1 : Int32).toInt = 1 → 0 ≤ p1.toInt ∧ p1.toInt ≤ 4) from ⟨Or.inr (by decide), fun _ => by omega⟩)⟩, (show TP D cA L T r σ ρ t.heap from by rw [ht]; exact hB.1)⟩, hS.F ht⟩) hS.2.2 dX11_isSort_23
theorem mw_4_93 : (.instanceMethod yX11_isSort : Cond) ∈ wsA := wsA_t (List.mem_append_right _ (List.mem_append_right _ (List.mem_append_right _ (List.mem_append_left _ (List.mem_of_getElem? (l := tables_1_4) (i := 93) rfl))))) rfl
theorem mp_2_8 : (.selects RX11 yX11_isSort yX11_isSort : Cond) ∈ wsA := wsA_p (q := (yX11_isSort, 12)) (List.mem_append_right _ (List.mem_append_left _ (List.mem_of_getElem? (l := lw_privs_2) (i := 8) rfl)))
theorem mw_1_1 : (.initialized RX11 : Cond) ∈ wsA := wsA_t (List.mem_append_left _ (List.mem_of_getElem? (l := tables_1_1) (i := 1) rfl)) rfl
theorem mw_4_94 : (.code yX11_isSort cX11_isSort 2 (some .boolean) : Cond) ∈ wsA := wsA_t (List.mem_append_right _ (List.mem_append_right _ (List.mem_append_right _ (List.mem_append_left _ (List.mem_of_getElem? (l := tables_1_4) (i := 94) rfl))))) rfl
theorem mw_4_91 : (.methodLink RX11 166 yX11_isSort : Cond) ∈ wsA := wsA_t (List.mem_append_right _ (List.mem_append_right _ (List.mem_append_right _ (List.mem_append_left _ (List.mem_of_getElem? (l := tables_1_4) (i := 91) rfl))))) rfl
theorem dX11_isSortOrNone_0 : decode cX11_isSortOrNone 0 = .ok (.iload_n 1, 1) := by decide +kernel
theorem dX11_isSortOrNone_1 : decode cX11_isSortOrNone 1 = .ok (.iconst (-1), 1) := by decide +kernel
theorem dX11_isSortOrNone_2 : decode cX11_isSortOrNone 2 = .ok (.if_icmp .eq 11, 3) := by decide +kernel
theorem dX11_isSortOrNone_13 : decode cX11_isSortOrNone 13 = .ok (.iconst 1, 1) := by decide +kernel
theorem dX11_isSortOrNone_14 : decode cX11_isSortOrNone 14 = .ok (.goto 4, 3) := by decide +kernel
theorem dX11_isSortOrNone_18 : decode cX11_isSortOrNone 18 = .ok (.ireturn, 1) := by decide +kernel
theorem dX11_isSortOrNone_5 : decode cX11_isSortOrNone 5 = .ok (.aload_n 0, 1) := by decide +kernel
theorem dX11_isSortOrNone_6 : decode cX11_isSortOrNone 6 = .ok (.iload_n 1, 1) := by decide +kernel
theorem dX11_isSortOrNone_7 : decode cX11_isSortOrNone 7 = .ok (.invokevirtual 166, 3) := by decide +kernel
theorem dX11_isSortOrNone_10 : decode cX11_isSortOrNone 10 = .ok (.ifCond .eq 7, 3) := by decide +kernel
theorem dX11_isSortOrNone_17 : decode cX11_isSortOrNone 17 = .ok (.iconst 0, 1) := by decide +kernel
theorem mv_X11_isSort : MV RX11 yX11_isSort cX11_isSort 2 (some .boolean) 1 := ⟨mw_4_93, mp_2_8, mw_1_1, mw_4_94, ⟨rfl, by decide, by decide, by decide +kernel⟩⟩
set_option maxHeartbeats 4000000 in
set_option maxRecDepth 100000 in
theorem cy_X11_isSortOrNone (l : Launch) (D : va_G) (cA : Nat → ClassId) (L : List Nat) (T : Nat → Nat) (r : Rg) (hG : GR L T r) (hL : L.Nodup) (σ : Sg) (ρ : Lg) (hW : WT L ry T σ) (sz : Nat) (h0 : Nat) (mh0 : h0 ∈ L) (th0 : T h0 = 11) (p1 : Int32) : Met l yX11_isSortOrNone (.code yX11_isSortOrNone cX11_isSortOrNone 2 (some .boolean) :: wsA) ({ frames := 1, cells := 0, slots := 0, locals := 21 }) (PR D cA L T r σ ρ sz [.ref h0, .int p1]) (QI D cA L T r ry ([] : List (Nat × Nat)) σ sz (fun x σ1 => ((x.toInt = 0 ∨ x.toInt = 1) ∧ (x.toInt = 1 → -1 ≤ p1.toInt ∧ p1.toInt ≤ 4)))) 0 0 (dm L sz) := by
  refine Met.ofW (cc := cX11_isSortOrNone) (maxL := 2) (ret := (some .boolean)) (by decide) rfl ?_
  intro p e s m args below meth c s₁ B hml hv
  obtain ⟨rfl, hsz, hP, hK, hN⟩ := hv
  have hx := B.exec
  have hb := B.bytes
  have hr := B.returns
  have hts : ∀ w ∈ wsA, w.before _ s = true := fun w h => atoms_spec (ws := .code yX11_isSortOrNone cX11_isSortOrNone 2 (some .boolean) :: wsA) B.pre w (List.mem_cons_of_mem _ h)
  have hown : s.vm.findClass RX11 = some m.cls := findClass_of_methodNamed B.named
  subst hsz
  have hLA : LA (dm L s.heap.size) L := ⟨hL, fun a h => Or.inl h⟩
  have hA : ∀ q : Nat, s.heap.size ≤ q → dm L s.heap.size q := fun q h => Or.inr h
  have hS : va_S (dm L s.heap.size) s.heap s.heap [] := va_S.rf
  have hB : TS D cA L T r ry ([] : List (Nat × Nat)) σ σ ρ s.heap := ⟨hP, hW, FR.rf⟩
  have hl := lv_entry ([.ref h0, .int p1]) (n := 2) (Nat.le_of_ble_eq_true rfl)
  rw [lg_entry_eq]
  generalize (lg_sl ([.ref h0, .int p1]) ++ List.replicate (2 - (lg_sl ([.ref h0, .int p1])).length) Slot.unset).toArray = ls at hl ⊢
  have hl : lv_has ls 2 [(0, .ref h0), (1, .int p1)] := hl
  refine lv_iload_n hx hb dX11_isSortOrNone_0 rfl (lv_at hl 1 rfl) ?_
  refine lv_iconst (v := (-1)) hx hb dX11_isSortOrNone_1 (by decide) ?_
  refine lv_icmp_eq (tgt := 13) hx hb dX11_isSortOrNone_2 (by decide) (fun c_1 => ?_) (fun c_1 => ?_)
  · skip
    have uc_1 := i_eq (n := (-1)) (by decide) c_1
    refine lv_iconst (v := 1) hx hb dX11_isSortOrNone_13 (by decide) ?_
    refine lv_goto (tgt := 18) hx hb dX11_isSortOrNone_14 (by decide) ?_
    exact W.zret (v := 1) hx hb hr rfl (fun t ht hW => ⟨⟨1, (σ, ρ), rfl, ⟨hB.2.1, hB.2.2, (show ((1 : Int32).toInt = 0 ∨ (1 : Int32).toInt = 1) ∧ ((1 : Int32).toInt = 1 → -1 ≤ p1.toInt ∧ p1.toInt ≤ 4) from ⟨Or.inr (by decide), fun _ => by omega⟩)⟩, (show TP D cA L T r σ ρ t.heap from by rw [ht]; exact hB.1)⟩, hS.F ht⟩) hS.2.2 dX11_isSortOrNone_18
  · skip
    have uc_1 := i_ne (n := (-1)) (by decide) c_1
    refine lv_aload_n hx hb dX11_isSortOrNone_5 rfl (lv_at hl 0 rfl) ?_
    refine lv_iload_n hx hb dX11_isSortOrNone_6 rfl (lv_at hl 1 rfl) ?_
    refine t_ci (va_runV (As := [.int p1]) (rest := []) ⟨hx, hb, hml, hown, hts⟩ (cy_X11_isSort l D cA L T r hG hLA.1 σ ρ hB.2.1 _ h0 mh0 th0 p1) (cV hts mv_X11_isSort mw_4_91 rfl rfl ⟨Nat.le_of_ble_eq_true rfl, Nat.le_of_ble_eq_true rfl⟩) (pV hB.1 hK hN mh0 th0 (show shp cA 11 _ _ _ = .inr (11, Fs11 _ _ _) from rfl) rfl) rfl rfl hl.1 rfl (lv_room (Nat.le_of_ble_eq_true rfl)) dX11_isSortOrNone_7 ⟨Nat.le_of_ble_eq_true rfl, Nat.le_of_ble_eq_true rfl⟩) hLA hA hB hS (by decide) (fun x_4 σ_2 ρ_3 H locs hB fσ_2 pσ_2 hS => ?_)
    have qσ_2 := FR.nil fσ_2
    subst qσ_2
    obtain ⟨ox_4, ix_4⟩ := pσ_2
    refine lv_if_eq (tgt := 17) hx hb dX11_isSortOrNone_10 (by decide) (fun c_5 => ?_) (fun c_5 => ?_)
    · skip
      have uc_5 := i_eq (n := 0) (by decide) c_5
      refine lv_iconst (v := 0) hx hb dX11_isSortOrNone_17 (by decide) ?_
      exact W.zret (v := 0) hx hb hr rfl (fun t ht hW => ⟨⟨0, (σ, ρ_3), rfl, ⟨hB.2.1, hB.2.2, (show ((0 : Int32).toInt = 0 ∨ (0 : Int32).toInt = 1) ∧ ((0 : Int32).toInt = 1 → -1 ≤ p1.toInt ∧ p1.toInt ≤ 4) from ⟨Or.inl (by decide), fun h => absurd h (by decide)⟩)⟩, (show TP D cA L T r σ ρ_3 t.heap from by rw [ht]; exact hB.1)⟩, hS.F ht⟩) hS.2.2 dX11_isSortOrNone_18
    · skip
      have uc_5 := i_ne (n := 0) (by decide) c_5
      refine lv_iconst (v := 1) hx hb dX11_isSortOrNone_13 (by decide) ?_
      refine lv_goto (tgt := 18) hx hb dX11_isSortOrNone_14 (by decide) ?_
      exact W.zret (v := 1) hx hb hr rfl (fun t ht hW => ⟨⟨1, (σ, ρ_3), rfl, ⟨hB.2.1, hB.2.2, (show ((1 : Int32).toInt = 0 ∨ (1 : Int32).toInt = 1) ∧ ((1 : Int32).toInt = 1 → -1 ≤ p1.toInt ∧ p1.toInt ≤ 4) from ⟨Or.inr (by decide), fun _ => by omega⟩)⟩, (show TP D cA L T r σ ρ_3 t.heap from by rw [ht]; exact hB.1)⟩, hS.F ht⟩) hS.2.2 dX11_isSortOrNone_18
theorem mw_4_72 : (.instanceMethod yX11_isPilgrim : Cond) ∈ wsA := wsA_t (List.mem_append_right _ (List.mem_append_right _ (List.mem_append_right _ (List.mem_append_left _ (List.mem_of_getElem? (l := tables_1_4) (i := 72) rfl))))) rfl
theorem mp_2_6 : (.selects RX11 yX11_isPilgrim yX11_isPilgrim : Cond) ∈ wsA := wsA_p (q := (yX11_isPilgrim, 12)) (List.mem_append_right _ (List.mem_append_left _ (List.mem_of_getElem? (l := lw_privs_2) (i := 6) rfl)))
theorem mw_4_73 : (.code yX11_isPilgrim cX11_isPilgrim 2 (some .boolean) : Cond) ∈ wsA := wsA_t (List.mem_append_right _ (List.mem_append_right _ (List.mem_append_right _ (List.mem_append_left _ (List.mem_of_getElem? (l := tables_1_4) (i := 73) rfl))))) rfl
theorem mw_4_70 : (.methodLink RX11 117 yX11_isPilgrim : Cond) ∈ wsA := wsA_t (List.mem_append_right _ (List.mem_append_right _ (List.mem_append_right _ (List.mem_append_left _ (List.mem_of_getElem? (l := tables_1_4) (i := 70) rfl))))) rfl
theorem mw_1_239 : (.fieldLink RX11 121 "HillBends$World" "now" "LHillBends$Scene;" : Cond) ∈ wsA := wsA_t (List.mem_append_left _ (List.mem_of_getElem? (l := tables_1_1) (i := 239) rfl)) rfl
theorem mw_1_84 : (.fieldLink RX11 125 "HillBends$Scene" "height" "[I" : Cond) ∈ wsA := wsA_t (List.mem_append_left _ (List.mem_of_getElem? (l := tables_1_1) (i := 84) rfl)) rfl
theorem dX11_areTogether_0 : decode cX11_areTogether 0 = .ok (.aload_n 0, 1) := by decide +kernel
theorem dX11_areTogether_1 : decode cX11_areTogether 1 = .ok (.iload_n 1, 1) := by decide +kernel
theorem dX11_areTogether_2 : decode cX11_areTogether 2 = .ok (.invokevirtual 117, 3) := by decide +kernel
theorem dX11_areTogether_5 : decode cX11_areTogether 5 = .ok (.ifCond .eq 47, 3) := by decide +kernel
theorem dX11_areTogether_52 : decode cX11_areTogether 52 = .ok (.iconst 0, 1) := by decide +kernel
theorem dX11_areTogether_53 : decode cX11_areTogether 53 = .ok (.ireturn, 1) := by decide +kernel
theorem dX11_areTogether_8 : decode cX11_areTogether 8 = .ok (.aload_n 0, 1) := by decide +kernel
theorem dX11_areTogether_9 : decode cX11_areTogether 9 = .ok (.iload_n 2, 1) := by decide +kernel
theorem dX11_areTogether_10 : decode cX11_areTogether 10 = .ok (.invokevirtual 117, 3) := by decide +kernel
theorem dX11_areTogether_13 : decode cX11_areTogether 13 = .ok (.ifCond .eq 39, 3) := by decide +kernel
theorem dX11_areTogether_16 : decode cX11_areTogether 16 = .ok (.iload_n 1, 1) := by decide +kernel
theorem dX11_areTogether_17 : decode cX11_areTogether 17 = .ok (.iload_n 2, 1) := by decide +kernel
theorem dX11_areTogether_18 : decode cX11_areTogether 18 = .ok (.if_icmp .eq 34, 3) := by decide +kernel
theorem dX11_areTogether_21 : decode cX11_areTogether 21 = .ok (.aload_n 0, 1) := by decide +kernel
theorem dX11_areTogether_22 : decode cX11_areTogether 22 = .ok (.getfield 32, 3) := by decide +kernel
theorem dX11_areTogether_25 : decode cX11_areTogether 25 = .ok (.getfield 121, 3) := by decide +kernel
theorem dX11_areTogether_28 : decode cX11_areTogether 28 = .ok (.getfield 125, 3) := by decide +kernel
theorem dX11_areTogether_31 : decode cX11_areTogether 31 = .ok (.iload_n 1, 1) := by decide +kernel
theorem dX11_areTogether_32 : decode cX11_areTogether 32 = .ok (.iaload, 1) := by decide +kernel
theorem dX11_areTogether_33 : decode cX11_areTogether 33 = .ok (.aload_n 0, 1) := by decide +kernel
theorem dX11_areTogether_34 : decode cX11_areTogether 34 = .ok (.getfield 32, 3) := by decide +kernel
theorem dX11_areTogether_37 : decode cX11_areTogether 37 = .ok (.getfield 121, 3) := by decide +kernel
theorem dX11_areTogether_40 : decode cX11_areTogether 40 = .ok (.getfield 125, 3) := by decide +kernel
theorem dX11_areTogether_43 : decode cX11_areTogether 43 = .ok (.iload_n 2, 1) := by decide +kernel
theorem dX11_areTogether_44 : decode cX11_areTogether 44 = .ok (.iaload, 1) := by decide +kernel
theorem dX11_areTogether_45 : decode cX11_areTogether 45 = .ok (.if_icmp .ne 7, 3) := by decide +kernel
theorem dX11_areTogether_48 : decode cX11_areTogether 48 = .ok (.iconst 1, 1) := by decide +kernel
theorem dX11_areTogether_49 : decode cX11_areTogether 49 = .ok (.goto 4, 3) := by decide +kernel
theorem mv_X11_isPilgrim : MV RX11 yX11_isPilgrim cX11_isPilgrim 2 (some .boolean) 1 := ⟨mw_4_72, mp_2_6, mw_1_1, mw_4_73, ⟨rfl, by decide, by decide, by decide +kernel⟩⟩
set_option maxHeartbeats 4000000 in
set_option maxRecDepth 100000 in
theorem cy_X11_areTogether (l : Launch) (D : va_G) (cA : Nat → ClassId) (L : List Nat) (T : Nat → Nat) (r : Rg) (hG : GR L T r) (hL : L.Nodup) (σ : Sg) (ρ : Lg) (hW : WT L ry T σ) (sz : Nat) (h0 : Nat) (mh0 : h0 ∈ L) (th0 : T h0 = 11) (p1 : Int32) (p2 : Int32) : Met l yX11_areTogether (.code yX11_areTogether cX11_areTogether 3 (some .boolean) :: wsA) ({ frames := 1, cells := 0, slots := 0, locals := 21 }) (PR D cA L T r σ ρ sz [.ref h0, .int p1, .int p2]) (QI D cA L T r ry ([] : List (Nat × Nat)) σ sz (fun x σ1 => ((x.toInt = 0 ∨ x.toInt = 1) ∧ (x.toInt = 1 → 0 ≤ p1.toInt ∧ p1.toInt ≤ 3 ∧ 0 ≤ p2.toInt ∧ p2.toInt ≤ 3)))) 0 0 (dm L sz) := by
  refine Met.ofW (cc := cX11_areTogether) (maxL := 3) (ret := (some .boolean)) (by decide) rfl ?_
  intro p e s m args below meth c s₁ B hml hv
  obtain ⟨rfl, hsz, hP, hK, hN⟩ := hv
  have hx := B.exec
  have hb := B.bytes
  have hr := B.returns
  have hts : ∀ w ∈ wsA, w.before _ s = true := fun w h => atoms_spec (ws := .code yX11_areTogether cX11_areTogether 3 (some .boolean) :: wsA) B.pre w (List.mem_cons_of_mem _ h)
  have hown : s.vm.findClass RX11 = some m.cls := findClass_of_methodNamed B.named
  subst hsz
  have hLA : LA (dm L s.heap.size) L := ⟨hL, fun a h => Or.inl h⟩
  have hA : ∀ q : Nat, s.heap.size ≤ q → dm L s.heap.size q := fun q h => Or.inr h
  have hS : va_S (dm L s.heap.size) s.heap s.heap [] := va_S.rf
  have hB : TS D cA L T r ry ([] : List (Nat × Nat)) σ σ ρ s.heap := ⟨hP, hW, FR.rf⟩
  have hl := lv_entry ([.ref h0, .int p1, .int p2]) (n := 3) (Nat.le_of_ble_eq_true rfl)
  rw [lg_entry_eq]
  generalize (lg_sl ([.ref h0, .int p1, .int p2]) ++ List.replicate (3 - (lg_sl ([.ref h0, .int p1, .int p2])).length) Slot.unset).toArray = ls at hl ⊢
  have hl : lv_has ls 3 [(0, .ref h0), (1, .int p1), (2, .int p2)] := hl
  refine lv_aload_n hx hb dX11_areTogether_0 rfl (lv_at hl 0 rfl) ?_
  refine lv_iload_n hx hb dX11_areTogether_1 rfl (lv_at hl 1 rfl) ?_
  refine t_ci (va_runV (As := [.int p1]) (rest := []) ⟨hx, hb, hml, hown, hts⟩ (cy_X11_isPilgrim l D cA L T r hG hLA.1 σ ρ hB.2.1 _ h0 mh0 th0 p1) (cV hts mv_X11_isPilgrim mw_4_70 rfl rfl ⟨Nat.le_of_ble_eq_true rfl, Nat.le_of_ble_eq_true rfl⟩) (pV hB.1 hK hN mh0 th0 (show shp cA 11 _ _ _ = .inr (11, Fs11 _ _ _) from rfl) rfl) rfl rfl hl.1 rfl (lv_room (Nat.le_of_ble_eq_true rfl)) dX11_areTogether_2 ⟨Nat.le_of_ble_eq_true rfl, Nat.le_of_ble_eq_true rfl⟩) hLA hA hB hS (by decide) (fun x_3 σ_1 ρ_2 H locs hB fσ_1 pσ_1 hS => ?_)
  have qσ_1 := FR.nil fσ_1
  subst qσ_1
  obtain ⟨ox_3, ix_3⟩ := pσ_1
  refine lv_if_eq (tgt := 52) hx hb dX11_areTogether_5 (by decide) (fun c_4 => ?_) (fun c_4 => ?_)
  · skip
    have uc_4 := i_eq (n := 0) (by decide) c_4
    refine lv_iconst (v := 0) hx hb dX11_areTogether_52 (by decide) ?_
    exact W.zret (v := 0) hx hb hr rfl (fun t ht hW => ⟨⟨0, (σ, ρ_2), rfl, ⟨hB.2.1, hB.2.2, (show ((0 : Int32).toInt = 0 ∨ (0 : Int32).toInt = 1) ∧ ((0 : Int32).toInt = 1 → 0 ≤ p1.toInt ∧ p1.toInt ≤ 3 ∧ 0 ≤ p2.toInt ∧ p2.toInt ≤ 3) from ⟨Or.inl (by decide), fun h => absurd h (by decide)⟩)⟩, (show TP D cA L T r σ ρ_2 t.heap from by rw [ht]; exact hB.1)⟩, hS.F ht⟩) hS.2.2 dX11_areTogether_53
  · skip
    have uc_4 := i_ne (n := 0) (by decide) c_4
    refine lv_aload_n hx hb dX11_areTogether_8 rfl (lv_at hl 0 rfl) ?_
    refine lv_iload_n hx hb dX11_areTogether_9 rfl (lv_at hl 2 rfl) ?_
    refine t_ci (va_runV (As := [.int p2]) (rest := []) ⟨hx, hb, hml, hown, hts⟩ (cy_X11_isPilgrim l D cA L T r hG hLA.1 σ ρ_2 hB.2.1 _ h0 mh0 th0 p2) (cV hts mv_X11_isPilgrim mw_4_70 rfl rfl ⟨Nat.le_of_ble_eq_true rfl, Nat.le_of_ble_eq_true rfl⟩) (pV hB.1 hK hN mh0 th0 (show shp cA 11 _ _ _ = .inr (11, Fs11 _ _ _) from rfl) rfl) rfl rfl hl.1 rfl (lv_room (Nat.le_of_ble_eq_true rfl)) dX11_areTogether_10 ⟨Nat.le_of_ble_eq_true rfl, Nat.le_of_ble_eq_true rfl⟩) hLA hA hB hS (by decide) (fun x_7 σ_5 ρ_6 H locs hB fσ_5 pσ_5 hS => ?_)
    have qσ_5 := FR.nil fσ_5
    subst qσ_5
    obtain ⟨ox_7, ix_7⟩ := pσ_5
    refine lv_if_eq (tgt := 52) hx hb dX11_areTogether_13 (by decide) (fun c_8 => ?_) (fun c_8 => ?_)
    · skip
      have uc_8 := i_eq (n := 0) (by decide) c_8
      refine lv_iconst (v := 0) hx hb dX11_areTogether_52 (by decide) ?_
      exact W.zret (v := 0) hx hb hr rfl (fun t ht hW => ⟨⟨0, (σ, ρ_6), rfl, ⟨hB.2.1, hB.2.2, (show ((0 : Int32).toInt = 0 ∨ (0 : Int32).toInt = 1) ∧ ((0 : Int32).toInt = 1 → 0 ≤ p1.toInt ∧ p1.toInt ≤ 3 ∧ 0 ≤ p2.toInt ∧ p2.toInt ≤ 3) from ⟨Or.inl (by decide), fun h => absurd h (by decide)⟩)⟩, (show TP D cA L T r σ ρ_6 t.heap from by rw [ht]; exact hB.1)⟩, hS.F ht⟩) hS.2.2 dX11_areTogether_53
    · skip
      have uc_8 := i_ne (n := 0) (by decide) c_8
      refine lv_iload_n hx hb dX11_areTogether_16 rfl (lv_at hl 1 rfl) ?_
      refine lv_iload_n hx hb dX11_areTogether_17 rfl (lv_at hl 2 rfl) ?_
      refine lv_icmp_eq (tgt := 52) hx hb dX11_areTogether_18 (by decide) (fun c_9 => ?_) (fun c_9 => ?_)
      · skip
        have uc_9 := j_eq c_9
        refine lv_iconst (v := 0) hx hb dX11_areTogether_52 (by decide) ?_
        exact W.zret (v := 0) hx hb hr rfl (fun t ht hW => ⟨⟨0, (σ, ρ_6), rfl, ⟨hB.2.1, hB.2.2, (show ((0 : Int32).toInt = 0 ∨ (0 : Int32).toInt = 1) ∧ ((0 : Int32).toInt = 1 → 0 ≤ p1.toInt ∧ p1.toInt ≤ 3 ∧ 0 ≤ p2.toInt ∧ p2.toInt ≤ 3) from ⟨Or.inl (by decide), fun h => absurd h (by decide)⟩)⟩, (show TP D cA L T r σ ρ_6 t.heap from by rw [ht]; exact hB.1)⟩, hS.F ht⟩) hS.2.2 dX11_areTogether_53
      · skip
        have uc_9 := j_ne c_9
        refine lv_aload_n hx hb dX11_areTogether_21 rfl (lv_at hl 0 rfl) ?_
        refine t_gr hx hb hts hown hK hG hB mh0 th0 fq_11_3 rfl mw_2_210 dX11_areTogether_22 (fun b_10 hb_10 mb_10 tb_10 => ?_)
        refine t_gr hx hb hts hown hK hG hB mb_10 tb_10 fq_10_1 rfl mw_1_239 dX11_areTogether_25 (fun b_11 hb_11 mb_11 tb_11 => ?_)
        refine t_gr hx hb hts hown hK hG hB mb_11 tb_11 fq_8_0 rfl mw_1_84 dX11_areTogether_28 (fun b_12 hb_12 mb_12 tb_12 => ?_)
        refine lv_iload_n hx hb dX11_areTogether_31 rfl (lv_at hl 1 rfl) ?_
        refine t_ai hx hb hK hB mb_12 tb_12 ai_45 (fun _ => rfl) (i_in (by omega) (by omega)) dX11_areTogether_32 (fun x_13 ex_13 lx_13 ux_13 => ?_)
        refine lv_aload_n hx hb dX11_areTogether_33 rfl (lv_at hl 0 rfl) ?_
        refine t_gk hx hb hts hown hK hB mh0 th0 fq_11_3 hb_10 mw_2_210 dX11_areTogether_34 ?_
        refine t_gk hx hb hts hown hK hB mb_10 tb_10 fq_10_1 hb_11 mw_1_239 dX11_areTogether_37 ?_
        refine t_gk hx hb hts hown hK hB mb_11 tb_11 fq_8_0 hb_12 mw_1_84 dX11_areTogether_40 ?_
        refine lv_iload_n hx hb dX11_areTogether_43 rfl (lv_at hl 2 rfl) ?_
        refine t_ai hx hb hK hB mb_12 tb_12 ai_45 (fun _ => rfl) (i_in (by omega) (by omega)) dX11_areTogether_44 (fun x_14 ex_14 lx_14 ux_14 => ?_)
        refine lv_icmp_ne (tgt := 52) hx hb dX11_areTogether_45 (by decide) (fun c_15 => ?_) (fun c_15 => ?_)
        · skip
          have uc_15 := j_ne c_15
          refine lv_iconst (v := 0) hx hb dX11_areTogether_52 (by decide) ?_
          exact W.zret (v := 0) hx hb hr rfl (fun t ht hW => ⟨⟨0, (σ, ρ_6), rfl, ⟨hB.2.1, hB.2.2, (show ((0 : Int32).toInt = 0 ∨ (0 : Int32).toInt = 1) ∧ ((0 : Int32).toInt = 1 → 0 ≤ p1.toInt ∧ p1.toInt ≤ 3 ∧ 0 ≤ p2.toInt ∧ p2.toInt ≤ 3) from ⟨Or.inl (by decide), fun h => absurd h (by decide)⟩)⟩, (show TP D cA L T r σ ρ_6 t.heap from by rw [ht]; exact hB.1)⟩, hS.F ht⟩) hS.2.2 dX11_areTogether_53
        · skip
          have uc_15 := j_eq c_15
          refine lv_iconst (v := 1) hx hb dX11_areTogether_48 (by decide) ?_
          refine lv_goto (tgt := 53) hx hb dX11_areTogether_49 (by decide) ?_
          exact W.zret (v := 1) hx hb hr rfl (fun t ht hW => ⟨⟨1, (σ, ρ_6), rfl, ⟨hB.2.1, hB.2.2, (show ((1 : Int32).toInt = 0 ∨ (1 : Int32).toInt = 1) ∧ ((1 : Int32).toInt = 1 → 0 ≤ p1.toInt ∧ p1.toInt ≤ 3 ∧ 0 ≤ p2.toInt ∧ p2.toInt ≤ 3) from ⟨Or.inr (by decide), fun _ => by omega⟩)⟩, (show TP D cA L T r σ ρ_6 t.heap from by rw [ht]; exact hB.1)⟩, hS.F ht⟩) hS.2.2 dX11_areTogether_53
