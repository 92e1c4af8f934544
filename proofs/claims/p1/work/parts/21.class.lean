set_option maxHeartbeats 4000000 in
set_option maxRecDepth 100000 in
theorem cz_X11_feed (l : Launch) (D : va_G) (cA : Nat → ClassId) (L : List Nat) (T : Nat → Nat) (r : Rg) (hG : GR L T r) (hL : L.Nodup) (σ : Sg) (ρ : Lg) (hW : WT L rz T σ) (sz : Nat) (h0 : Nat) (mh0 : h0 ∈ L) (th0 : T h0 = 11) (p1 : Int32) (p2 : Int32) (p3 : Int32) (p4 : Int32) (p5 : Int32) (hZ : ZZ L T σ) : Met l yX11_feed (.code yX11_feed cX11_feed 6 (some .int) :: wsA) ({ frames := 1, cells := 0, slots := 0, locals := 22 }) (PR D cA L T r σ ρ sz [.ref h0, .int p1, .int p2, .int p3, .int p4, .int p5]) (QI D cA L T r rz [(9, 4), (51, 1000)] σ sz (fun x σ1 => x = 20)) 0 0 (dm L sz) := by
  refine Met.ofW (cc := cX11_feed) (maxL := 6) (ret := (some .int)) (by decide) rfl ?_
  intro p e s m args below meth c s₁ B hml hv
  obtain ⟨rfl, hsz, hP, hK, hN⟩ := hv
  have hx := B.exec
  have hb := B.bytes
  have hr := B.returns
  have hts : ∀ w ∈ wsA, w.before _ s = true := fun w h => atoms_spec (ws := .code yX11_feed cX11_feed 6 (some .int) :: wsA) B.pre w (List.mem_cons_of_mem _ h)
  have hown : s.vm.findClass RX11 = some m.cls := findClass_of_methodNamed B.named
  subst hsz
  have hLA : LA (dm L s.heap.size) L := ⟨hL, fun a h => Or.inl h⟩
  have hA : ∀ q : Nat, s.heap.size ≤ q → dm L s.heap.size q := fun q h => Or.inr h
  have hS : va_S (dm L s.heap.size) s.heap s.heap [] := va_S.rf
  have hB : TS D cA L T r rz [(9, 4), (51, 1000)] σ σ ρ s.heap := ⟨hP, hW, FR.rf⟩
  have hl := lv_entry ([.ref h0, .int p1, .int p2, .int p3, .int p4, .int p5]) (n := 6) (Nat.le_of_ble_eq_true rfl)
  rw [lg_entry_eq]
  generalize (lg_sl ([.ref h0, .int p1, .int p2, .int p3, .int p4, .int p5]) ++ List.replicate (6 - (lg_sl ([.ref h0, .int p1, .int p2, .int p3, .int p4, .int p5])).length) Slot.unset).toArray = ls at hl ⊢
  have hl : lv_has ls 6 [(0, .ref h0), (1, .int p1), (2, .int p2), (3, .int p3), (4, .int p4), (5, .int p5)] := hl
  refine lv_aload_n hx hb dX11_feed_0 rfl (lv_at hl 0 rfl) ?_
  refine t_gr hx hb hts hown hK hG hB mh0 th0 fq_11_0 rfl mw_2_207 dX11_feed_1 (fun b_1 hb_1 mb_1 tb_1 => ?_)
  refine t_gv hx hb hts hown hK hB mb_1 tb_1 fi_9_4 (hZ.at (j := 4) mb_1 tb_1 (by decide : ini 9 4 = 0)) mw_1_40 dX11_feed_4 ?_
  refine lv_bipush (v := 20) hx hb dX11_feed_7 (by decide) ?_
  refine lv_iadd hx hb dX11_feed_9 ?_
  refine tp_i (w := 20) (by decide) ?_
  refine lv_sipush (v := 400) hx hb dX11_feed_10 (by decide) ?_
  refine lv_icmp_le (tgt := 18) hx hb dX11_feed_13 (by decide) (fun _ => ?_) (fun c9 => absurd (by decide) c9)
  refine lv_aload_n hx hb dX11_feed_18 rfl (lv_at hl 0 rfl) ?_
  refine t_gk hx hb hts hown hK hB mh0 th0 fq_11_0 hb_1 mw_2_207 dX11_feed_19 ?_
  refine lv_iload_n hx hb dX11_feed_22 rfl (lv_at hl 1 rfl) ?_
  refine t_cv (va_runV (As := [.int p1]) (rest := []) ⟨hx, hb, hml, hown, hts⟩ (cz_X9_append_0 l D cA L T r hG hLA.1 σ ρ hB.2.1 _ b_1 mb_1 tb_1 p1 (hZ.at (j := 4) mb_1 tb_1 (by decide : ini 9 4 = 0))) (cV hts mv_X9_append mw_3_8 rfl rfl ⟨Nat.le_of_ble_eq_true rfl, Nat.le_of_ble_eq_true rfl⟩) (pV hB.1 hK hN mb_1 tb_1 (show shp cA 9 _ _ _ = .inr (9, Fs9 _ _ _) from rfl) rfl) rfl rfl hl.1 rfl (lv_room (Nat.le_of_ble_eq_true rfl)) dX11_feed_23 ⟨Nat.le_of_ble_eq_true rfl, Nat.le_of_ble_eq_true rfl⟩) hLA hA hB hS (by decide) (fun σ_2 ρ_3 H locs hB fσ_2 pσ_2 hS => ?_)
  refine lv_aload_n hx hb dX11_feed_26 rfl (lv_at hl 0 rfl) ?_
  refine t_gk hx hb hts hown hK hB mh0 th0 fq_11_0 hb_1 mw_2_207 dX11_feed_27 ?_
  refine lv_iload_n hx hb dX11_feed_30 rfl (lv_at hl 2 rfl) ?_
  refine t_cv (va_runV (As := [.int p2]) (rest := []) ⟨hx, hb, hml, hown, hts⟩ (cz_X9_append_4 l D cA L T r hG hLA.1 σ_2 ρ_3 hB.2.1 _ b_1 mb_1 tb_1 p2 pσ_2) (cV hts mv_X9_append mw_3_8 rfl rfl ⟨Nat.le_of_ble_eq_true rfl, Nat.le_of_ble_eq_true rfl⟩) (pV hB.1 hK hN mb_1 tb_1 (show shp cA 9 _ _ _ = .inr (9, Fs9 _ _ _) from rfl) rfl) rfl rfl hl.1 rfl (lv_room (Nat.le_of_ble_eq_true rfl)) dX11_feed_31 ⟨Nat.le_of_ble_eq_true rfl, Nat.le_of_ble_eq_true rfl⟩) hLA hA hB hS (by decide) (fun σ_5 ρ_6 H locs hB fσ_5 pσ_5 hS => ?_)
  refine lv_aload_n hx hb dX11_feed_34 rfl (lv_at hl 0 rfl) ?_
  refine t_gk hx hb hts hown hK hB mh0 th0 fq_11_0 hb_1 mw_2_207 dX11_feed_35 ?_
  refine lv_iload_n hx hb dX11_feed_38 rfl (lv_at hl 3 rfl) ?_
  refine t_cv (va_runV (As := [.int p3]) (rest := []) ⟨hx, hb, hml, hown, hts⟩ (cz_X9_append_8 l D cA L T r hG hLA.1 σ_5 ρ_6 hB.2.1 _ b_1 mb_1 tb_1 p3 pσ_5) (cV hts mv_X9_append mw_3_8 rfl rfl ⟨Nat.le_of_ble_eq_true rfl, Nat.le_of_ble_eq_true rfl⟩) (pV hB.1 hK hN mb_1 tb_1 (show shp cA 9 _ _ _ = .inr (9, Fs9 _ _ _) from rfl) rfl) rfl rfl hl.1 rfl (lv_room (Nat.le_of_ble_eq_true rfl)) dX11_feed_39 ⟨Nat.le_of_ble_eq_true rfl, Nat.le_of_ble_eq_true rfl⟩) hLA hA hB hS (by decide) (fun σ_8 ρ_9 H locs hB fσ_8 pσ_8 hS => ?_)
  refine lv_aload_n hx hb dX11_feed_42 rfl (lv_at hl 0 rfl) ?_
  refine t_gk hx hb hts hown hK hB mh0 th0 fq_11_0 hb_1 mw_2_207 dX11_feed_43 ?_
  refine lv_iload hx hb dX11_feed_46 (lv_at hl 4 rfl) ?_
  refine t_cv (va_runV (As := [.int p4]) (rest := []) ⟨hx, hb, hml, hown, hts⟩ (cz_X9_append_12 l D cA L T r hG hLA.1 σ_8 ρ_9 hB.2.1 _ b_1 mb_1 tb_1 p4 pσ_8) (cV hts mv_X9_append mw_3_8 rfl rfl ⟨Nat.le_of_ble_eq_true rfl, Nat.le_of_ble_eq_true rfl⟩) (pV hB.1 hK hN mb_1 tb_1 (show shp cA 9 _ _ _ = .inr (9, Fs9 _ _ _) from rfl) rfl) rfl rfl hl.1 rfl (lv_room (Nat.le_of_ble_eq_true rfl)) dX11_feed_48 ⟨Nat.le_of_ble_eq_true rfl, Nat.le_of_ble_eq_true rfl⟩) hLA hA hB hS (by decide) (fun σ_11 ρ_12 H locs hB fσ_11 pσ_11 hS => ?_)
  refine lv_aload_n hx hb dX11_feed_51 rfl (lv_at hl 0 rfl) ?_
  refine t_gk hx hb hts hown hK hB mh0 th0 fq_11_0 hb_1 mw_2_207 dX11_feed_52 ?_
  refine lv_iload hx hb dX11_feed_55 (lv_at hl 5 rfl) ?_
  refine t_cv (va_runV (As := [.int p5]) (rest := []) ⟨hx, hb, hml, hown, hts⟩ (cz_X9_append_16 l D cA L T r hG hLA.1 σ_11 ρ_12 hB.2.1 _ b_1 mb_1 tb_1 p5 pσ_11) (cV hts mv_X9_append mw_3_8 rfl rfl ⟨Nat.le_of_ble_eq_true rfl, Nat.le_of_ble_eq_true rfl⟩) (pV hB.1 hK hN mb_1 tb_1 (show shp cA 9 _ _ _ = .inr (9, Fs9 _ _ _) from rfl) rfl) rfl rfl hl.1 rfl (lv_room (Nat.le_of_ble_eq_true rfl)) dX11_feed_57 ⟨Nat.le_of_ble_eq_true rfl, Nat.le_of_ble_eq_true rfl⟩) hLA hA hB hS (by decide) (fun σ_14 ρ_15 H locs hB fσ_14 pσ_14 hS => ?_)
  refine lv_aload_n hx hb dX11_feed_60 rfl (lv_at hl 0 rfl) ?_
  refine t_gk hx hb hts hown hK hB mh0 th0 fq_11_0 hb_1 mw_2_207 dX11_feed_61 ?_
  refine t_gv hx hb hts hown hK hB mb_1 tb_1 fi_9_4 pσ_14 mw_1_40 dX11_feed_64 ?_
  exact W.iret (v := 20) hx hb hr (fun t ht hW => ⟨⟨20, (σ_14, ρ_15), rfl, ⟨hB.2.1, hB.2.2, rfl⟩, (show TP D cA L T r σ_14 ρ_15 t.heap from by rw [ht]; exact hB.1)⟩, hS.F ht⟩) hS.2.2 dX11_feed_67
set_option maxHeartbeats 4000000 in
set_option maxRecDepth 100000 in
theorem cz_X11_end (l : Launch) (D : va_G) (cA : Nat → ClassId) (L : List Nat) (T : Nat → Nat) (r : Rg) (hG : GR L T r) (hL : L.Nodup) (σ : Sg) (ρ : Lg) (hW : WT L rz T σ) (sz : Nat) (h0 : Nat) (mh0 : h0 ∈ L) (th0 : T h0 = 11) (p1 : Int32) (hZ : ZZ L T σ) : Met l yX11_end (.code yX11_end cX11_end 2 (some .int) :: wsA) ({ frames := 0, cells := 0, slots := 0, locals := 0 }) (PR D cA L T r σ ρ sz [.ref h0, .int p1]) (QI D cA L T r rz [(9, 4)] σ sz (fun x σ1 => x = if p1.toInt = 0 then 0 else (-1))) 0 0 (dm L sz) := by
  refine Met.ofW (cc := cX11_end) (maxL := 2) (ret := (some .int)) (by decide) rfl ?_
  intro p e s m args below meth c s₁ B hml hv
  obtain ⟨rfl, hsz, hP, hK, hN⟩ := hv
  have hx := B.exec
  have hb := B.bytes
  have hr := B.returns
  have hts : ∀ w ∈ wsA, w.before _ s = true := fun w h => atoms_spec (ws := .code yX11_end cX11_end 2 (some .int) :: wsA) B.pre w (List.mem_cons_of_mem _ h)
  have hown : s.vm.findClass RX11 = some m.cls := findClass_of_methodNamed B.named
  subst hsz
  have hLA : LA (dm L s.heap.size) L := ⟨hL, fun a h => Or.inl h⟩
  have hA : ∀ q : Nat, s.heap.size ≤ q → dm L s.heap.size q := fun q h => Or.inr h
  have hS : va_S (dm L s.heap.size) s.heap s.heap [] := va_S.rf
  have hB : TS D cA L T r rz [(9, 4)] σ σ ρ s.heap := ⟨hP, hW, FR.rf⟩
  have hl := lv_entry ([.ref h0, .int p1]) (n := 2) (Nat.le_of_ble_eq_true rfl)
  rw [lg_entry_eq]
  generalize (lg_sl ([.ref h0, .int p1]) ++ List.replicate (2 - (lg_sl ([.ref h0, .int p1])).length) Slot.unset).toArray = ls at hl ⊢
  have hl : lv_has ls 2 [(0, .ref h0), (1, .int p1)] := hl
  refine lv_iload_n hx hb dX11_end_0 rfl (lv_at hl 1 rfl) ?_
  refine lv_if_lt (tgt := 15) hx hb dX11_end_1 (by decide) (fun c_1 => ?_) (fun c_1 => ?_)
  · skip
    have uc_1 := i_lt (n := 0) (by decide) c_1
    refine lv_iconst (v := (-1)) hx hb dX11_end_15 (by decide) ?_
    exact W.iret (v := (-1)) hx hb hr (fun t ht hW => ⟨⟨(-1), (σ, ρ), rfl, ⟨hB.2.1, hB.2.2, (if_neg (by omega)).symm⟩, (show TP D cA L T r σ ρ t.heap from by rw [ht]; exact hB.1)⟩, hS.F ht⟩) hS.2.2 dX11_end_16
  · skip
    have uc_1 := i_nlt (n := 0) (by decide) c_1
    refine lv_iload_n hx hb dX11_end_4 rfl (lv_at hl 1 rfl) ?_
    refine lv_aload_n hx hb dX11_end_5 rfl (lv_at hl 0 rfl) ?_
    refine t_gr hx hb hts hown hK hG hB mh0 th0 fq_11_0 rfl mw_2_207 dX11_end_6 (fun b_2 hb_2 mb_2 tb_2 => ?_)
    refine t_gv hx hb hts hown hK hB mb_2 tb_2 fi_9_4 (hZ.at (j := 4) mb_2 tb_2 (by decide : ini 9 4 = 0)) mw_1_40 dX11_end_9 ?_
    refine lv_icmp_le (tgt := 17) hx hb dX11_end_12 (by decide) (fun c_3 => ?_) (fun c_3 => ?_)
    · skip
      have uc_3 := i_le (n := 0) (by decide) c_3
      refine lv_aload_n hx hb dX11_end_17 rfl (lv_at hl 0 rfl) ?_
      refine t_gk hx hb hts hown hK hB mh0 th0 fq_11_0 hb_2 mw_2_207 dX11_end_18 ?_
      refine lv_iload_n hx hb dX11_end_21 rfl (lv_at hl 1 rfl) ?_
      refine t_pi hx hb hts hown hK hLA hB hS mb_2 tb_2 fi_9_4 rfl rfl rfl (i_lo _) (i_hi _) (Or.inl (by decide)) mw_1_40 dX11_end_22 (fun H locs σ_4 eσ_4 hB hS => ?_)
      have k_5 : σ_4 b_2 4 = p1 := by rw [eσ_4]; exact up2_same _ _ _ _
      refine lv_iload_n hx hb dX11_end_25 rfl (lv_at hl 1 rfl) ?_
      exact W.iret (v := p1) hx hb hr (fun t ht hW => ⟨⟨p1, (σ_4, ρ), rfl, ⟨hB.2.1, hB.2.2, (by rw [if_pos (by omega)]; exact i_is (n := 0) (by decide) (by omega))⟩, (show TP D cA L T r σ_4 ρ t.heap from by rw [ht]; exact hB.1)⟩, hS.F ht⟩) hS.2.2 dX11_end_26
    · skip
      have uc_3 := i_nle (n := 0) (by decide) c_3
      refine lv_iconst (v := (-1)) hx hb dX11_end_15 (by decide) ?_
      exact W.iret (v := (-1)) hx hb hr (fun t ht hW => ⟨⟨(-1), (σ, ρ), rfl, ⟨hB.2.1, hB.2.2, (if_neg (by omega)).symm⟩, (show TP D cA L T r σ ρ t.heap from by rw [ht]; exact hB.1)⟩, hS.F ht⟩) hS.2.2 dX11_end_16
set_option maxHeartbeats 4000000 in
set_option maxRecDepth 100000 in
theorem cz_X11_hill (l : Launch) (D : va_G) (cA : Nat → ClassId) (L : List Nat) (T : Nat → Nat) (r : Rg) (hG : GR L T r) (hL : L.Nodup) (σ : Sg) (ρ : Lg) (hW : WT L rz T σ) (sz : Nat) (h0 : Nat) (mh0 : h0 ∈ L) (th0 : T h0 = 11) (hZ : ZZ L T σ) : Met l yX11_hill (.code yX11_hill cX11_hill 2 (some .int) :: wsA) ({ frames := 3, cells := 0, slots := 0, locals := 70 }) (PR D cA L T r σ ρ sz [.ref h0]) (QI D cA L T r rz [(3, 6), (3, 7), (3, 8), (3, 9), (3, 10), (4, 1), (8, 6), (8, 7), (9, 5), (9, 6), (45, 1000), (46, 1000), (47, 1000), (48, 1000), (49, 1000), (50, 1000), (52, 1000), (53, 1000), (54, 1000)] σ sz (fun x σ1 => x = (-3))) 0 0 (dm L sz) := by
  refine Met.ofW (cc := cX11_hill) (maxL := 2) (ret := (some .int)) (by decide) rfl ?_
  intro p e s m args below meth c s₁ B hml hv
  obtain ⟨rfl, hsz, hP, hK, hN⟩ := hv
  have hx := B.exec
  have hb := B.bytes
  have hr := B.returns
  have hts : ∀ w ∈ wsA, w.before _ s = true := fun w h => atoms_spec (ws := .code yX11_hill cX11_hill 2 (some .int) :: wsA) B.pre w (List.mem_cons_of_mem _ h)
  have hown : s.vm.findClass RX11 = some m.cls := findClass_of_methodNamed B.named
  subst hsz
  have hLA : LA (dm L s.heap.size) L := ⟨hL, fun a h => Or.inl h⟩
  have hA : ∀ q : Nat, s.heap.size ≤ q → dm L s.heap.size q := fun q h => Or.inr h
  have hS : va_S (dm L s.heap.size) s.heap s.heap [] := va_S.rf
  have hB : TS D cA L T r rz [(3, 6), (3, 7), (3, 8), (3, 9), (3, 10), (4, 1), (8, 6), (8, 7), (9, 5), (9, 6), (45, 1000), (46, 1000), (47, 1000), (48, 1000), (49, 1000), (50, 1000), (52, 1000), (53, 1000), (54, 1000)] σ σ ρ s.heap := ⟨hP, hW, FR.rf⟩
  have hl := lv_entry ([.ref h0]) (n := 2) (Nat.le_of_ble_eq_true rfl)
  rw [lg_entry_eq]
  generalize (lg_sl ([.ref h0]) ++ List.replicate (2 - (lg_sl ([.ref h0])).length) Slot.unset).toArray = ls at hl ⊢
  have hl : lv_has ls 2 [(0, .ref h0)] := hl
  refine lv_aload_n hx hb dX11_hill_0 rfl (lv_at hl 0 rfl) ?_
  refine t_gr hx hb hts hown hK hG hB mh0 th0 fq_11_1 rfl mw_2_208 dX11_hill_1 (fun b_1 hb_1 mb_1 tb_1 => ?_)
  refine lv_aload_n hx hb dX11_hill_4 rfl (lv_at hl 0 rfl) ?_
  refine t_gr hx hb hts hown hK hG hB mh0 th0 fq_11_0 rfl mw_2_207 dX11_hill_5 (fun b_2 hb_2 mb_2 tb_2 => ?_)
  obtain ⟨b_3, hb_3, mb_3, tb_3⟩ := hG b_2 mb_2 1 _ (by rw [tb_2]; rfl)
  obtain ⟨b_4, hb_4, mb_4, tb_4⟩ := hG b_2 mb_2 2 _ (by rw [tb_2]; rfl)
  refine t_ci (va_runV (As := [.ref b_2]) (rest := []) ⟨hx, hb, hml, hown, hts⟩ (cz_X4_read l D cA L T r hG hLA.1 σ ρ hB.2.1 _ b_1 mb_1 tb_1 b_2 mb_2 tb_2 b_3 hb_3 mb_3 tb_3 b_4 hb_4 mb_4 tb_4 (hZ.at (j := 4) mb_2 tb_2 (by decide : ini 9 4 = 0))) (cV hts mv_X4_read mw_3_20 rfl rfl ⟨Nat.le_of_ble_eq_true rfl, Nat.le_of_ble_eq_true rfl⟩) (pV hB.1 hK hN mb_1 tb_1 (show shp cA 4 _ _ _ = .inr (4, Fs4 _ _ _) from rfl) rfl) rfl rfl hl.1 rfl (lv_room (Nat.le_of_ble_eq_true rfl)) dX11_hill_8 ⟨Nat.le_of_ble_eq_true rfl, Nat.le_of_ble_eq_true rfl⟩) hLA hA hB hS (by decide) (fun x_7 σ_5 ρ_6 H locs hB fσ_5 pσ_5 hS => ?_)
  subst pσ_5
  refine lv_istore_n (lv' := [(1, .int 1), (0, .ref h0)]) hx hb dX11_hill_11 rfl hl (by decide) rfl (fun ls hl => ?_)
  refine lv_iload_n hx hb dX11_hill_12 rfl (lv_at hl 0 rfl) ?_
  refine lv_if_eq (tgt := 21) hx hb dX11_hill_13 (by decide) (fun c9 => absurd c9 (by decide)) (fun _ => ?_)
  refine lv_bipush (v := (-2)) hx hb dX11_hill_16 (by decide) ?_
  refine lv_iload_n hx hb dX11_hill_18 rfl (lv_at hl 0 rfl) ?_
  refine lv_isub hx hb dX11_hill_19 ?_
  refine tp_i (w := (-3)) (by decide) ?_
  exact W.iret (v := (-3)) hx hb hr (fun t ht hW => ⟨⟨(-3), (σ_5, ρ_6), rfl, ⟨hB.2.1, hB.2.2, rfl⟩, (show TP D cA L T r σ_5 ρ_6 t.heap from by rw [ht]; exact hB.1)⟩, hS.F ht⟩) hS.2.2 dX11_hill_20
set_option maxHeartbeats 4000000 in
set_option maxRecDepth 100000 in
theorem cz_X11_rule (l : Launch) (D : va_G) (cA : Nat → ClassId) (L : List Nat) (T : Nat → Nat) (r : Rg) (hG : GR L T r) (hL : L.Nodup) (σ : Sg) (ρ : Lg) (hW : WT L rz T σ) (sz : Nat) (h0 : Nat) (mh0 : h0 ∈ L) (th0 : T h0 = 11) (hZ : ZZ L T σ) : Met l yX11_rule (.code yX11_rule cX11_rule 2 (some .int) :: wsA) ({ frames := 3, cells := 0, slots := 0, locals := 68 }) (PR D cA L T r σ ρ sz [.ref h0]) (QI D cA L T r rz [(7, 4), (7, 5), (7, 6), (7, 7), (9, 4), (9, 5), (9, 6), (52, 1000), (53, 1000), (54, 1000)] σ sz (fun x σ1 => x = (-3))) 0 0 (dm L sz) := by
  refine Met.ofW (cc := cX11_rule) (maxL := 2) (ret := (some .int)) (by decide) rfl ?_
  intro p e s m args below meth c s₁ B hml hv
  obtain ⟨rfl, hsz, hP, hK, hN⟩ := hv
  have hx := B.exec
  have hb := B.bytes
  have hr := B.returns
  have hts : ∀ w ∈ wsA, w.before _ s = true := fun w h => atoms_spec (ws := .code yX11_rule cX11_rule 2 (some .int) :: wsA) B.pre w (List.mem_cons_of_mem _ h)
  have hown : s.vm.findClass RX11 = some m.cls := findClass_of_methodNamed B.named
  subst hsz
  have hLA : LA (dm L s.heap.size) L := ⟨hL, fun a h => Or.inl h⟩
  have hA : ∀ q : Nat, s.heap.size ≤ q → dm L s.heap.size q := fun q h => Or.inr h
  have hS : va_S (dm L s.heap.size) s.heap s.heap [] := va_S.rf
  have hB : TS D cA L T r rz [(7, 4), (7, 5), (7, 6), (7, 7), (9, 4), (9, 5), (9, 6), (52, 1000), (53, 1000), (54, 1000)] σ σ ρ s.heap := ⟨hP, hW, FR.rf⟩
  have hl := lv_entry ([.ref h0]) (n := 2) (Nat.le_of_ble_eq_true rfl)
  rw [lg_entry_eq]
  generalize (lg_sl ([.ref h0]) ++ List.replicate (2 - (lg_sl ([.ref h0])).length) Slot.unset).toArray = ls at hl ⊢
  have hl : lv_has ls 2 [(0, .ref h0)] := hl
  refine lv_aload_n hx hb dX11_rule_0 rfl (lv_at hl 0 rfl) ?_
  refine t_gi hx hb hts hown hK hB mh0 th0 fi_11_10 rfl mw_2_217 dX11_rule_1 (fun x_1 ex_1 lx_1 ux_1 => ?_)
  obtain rfl : x_1 = 0 := i_is (n := 0) (by decide) (by omega)
  refine lv_bipush (v := 6) hx hb dX11_rule_4 (by decide) ?_
  refine lv_icmp_lt (tgt := 11) hx hb dX11_rule_6 (by decide) (fun _ => ?_) (fun c9 => absurd (by decide) c9)
  refine lv_aload_n hx hb dX11_rule_11 rfl (lv_at hl 0 rfl) ?_
  refine t_gr hx hb hts hown hK hG hB mh0 th0 fq_11_2 rfl mw_2_209 dX11_rule_12 (fun b_2 hb_2 mb_2 tb_2 => ?_)
  refine lv_aload_n hx hb dX11_rule_15 rfl (lv_at hl 0 rfl) ?_
  refine t_gi hx hb hts hown hK hB mh0 th0 fi_11_10 rfl mw_2_217 dX11_rule_16 (fun x_3 ex_3 lx_3 ux_3 => ?_)
  obtain rfl : x_3 = 0 := i_is (n := 0) (by decide) (by omega)
  refine t_aq hx hb hK hG hB mb_2 tb_2 aq_59 rfl (i_in (by decide) (by decide)) dX11_rule_19 (fun b_4 hb_4 mb_4 tb_4 => ?_)
  refine lv_aload_n hx hb dX11_rule_20 rfl (lv_at hl 0 rfl) ?_
  refine t_gr hx hb hts hown hK hG hB mh0 th0 fq_11_0 rfl mw_2_207 dX11_rule_21 (fun b_5 hb_5 mb_5 tb_5 => ?_)
  obtain ⟨b_6, hb_6, mb_6, tb_6⟩ := hG b_5 mb_5 1 _ (by rw [tb_5]; rfl)
  obtain ⟨b_7, hb_7, mb_7, tb_7⟩ := hG b_5 mb_5 2 _ (by rw [tb_5]; rfl)
  refine t_ci (va_runV (As := [.ref b_5]) (rest := []) ⟨hx, hb, hml, hown, hts⟩ (cz_X7_read l D cA L T r hG hLA.1 σ ρ hB.2.1 _ b_4 mb_4 tb_4 b_5 mb_5 tb_5 b_6 hb_6 mb_6 tb_6 b_7 hb_7 mb_7 tb_7 (hZ.at (j := 4) mb_5 tb_5 (by decide : ini 9 4 = 0))) (cV hts mv_X7_read mw_4_19 rfl rfl ⟨Nat.le_of_ble_eq_true rfl, Nat.le_of_ble_eq_true rfl⟩) (pV hB.1 hK hN mb_4 tb_4 (show shp cA 7 _ _ _ = .inr (7, Fs7 _ _ _) from rfl) rfl) rfl rfl hl.1 rfl (lv_room (Nat.le_of_ble_eq_true rfl)) dX11_rule_24 ⟨Nat.le_of_ble_eq_true rfl, Nat.le_of_ble_eq_true rfl⟩) hLA hA hB hS (by decide) (fun x_10 σ_8 ρ_9 H locs hB fσ_8 pσ_8 hS => ?_)
  subst pσ_8
  refine lv_istore_n (lv' := [(1, .int 1), (0, .ref h0)]) hx hb dX11_rule_27 rfl hl (by decide) rfl (fun ls hl => ?_)
  refine lv_aload_n hx hb dX11_rule_28 rfl (lv_at hl 1 rfl) ?_
  refine t_gk hx hb hts hown hK hB mh0 th0 fq_11_0 hb_5 mw_2_207 dX11_rule_29 ?_
  refine lv_iconst (v := 0) hx hb dX11_rule_32 (by decide) ?_
  refine t_pi hx hb hts hown hK hLA hB hS mb_5 tb_5 fi_9_4 rfl rfl rfl (i_lo _) (i_hi _) (Or.inl (by decide)) mw_1_40 dX11_rule_33 (fun H locs σ_11 eσ_11 hB hS => ?_)
  have k_12 : σ_11 b_5 4 = 0 := by rw [eσ_11]; exact up2_same _ _ _ _
  refine lv_iload_n hx hb dX11_rule_36 rfl (lv_at hl 0 rfl) ?_
  refine lv_if_eq (tgt := 45) hx hb dX11_rule_37 (by decide) (fun c9 => absurd c9 (by decide)) (fun _ => ?_)
  refine lv_bipush (v := (-2)) hx hb dX11_rule_40 (by decide) ?_
  refine lv_iload_n hx hb dX11_rule_42 rfl (lv_at hl 0 rfl) ?_
  refine lv_isub hx hb dX11_rule_43 ?_
  refine tp_i (w := (-3)) (by decide) ?_
  exact W.iret (v := (-3)) hx hb hr (fun t ht hW => ⟨⟨(-3), (σ_11, ρ_9), rfl, ⟨hB.2.1, hB.2.2, rfl⟩, (show TP D cA L T r σ_11 ρ_9 t.heap from by rw [ht]; exact hB.1)⟩, hS.F ht⟩) hS.2.2 dX11_rule_44
set_option maxHeartbeats 4000000 in
set_option maxRecDepth 100000 in
theorem cz_X11_force (l : Launch) (D : va_G) (cA : Nat → ClassId) (L : List Nat) (T : Nat → Nat) (r : Rg) (hG : GR L T r) (hL : L.Nodup) (σ : Sg) (ρ : Lg) (hW : WT L rz T σ) (sz : Nat) (h0 : Nat) (mh0 : h0 ∈ L) (th0 : T h0 = 11) (p1 : Int32) (hZ : ZZ L T σ) : Met l yX11_force (.code yX11_force cX11_force 3 (some .int) :: wsA) ({ frames := 0, cells := 0, slots := 0, locals := 0 }) (PR D cA L T r σ ρ sz [.ref h0, .int p1]) (QI D cA L T r rz [(10, 7)] σ sz (fun x σ1 => x = if p1.toInt = -1 then (-1) else (-2))) 0 0 (dm L sz) := by
  refine Met.ofW (cc := cX11_force) (maxL := 3) (ret := (some .int)) (by decide) rfl ?_
  intro p e s m args below meth c s₁ B hml hv
  obtain ⟨rfl, hsz, hP, hK, hN⟩ := hv
  have hx := B.exec
  have hb := B.bytes
  have hr := B.returns
  have hts : ∀ w ∈ wsA, w.before _ s = true := fun w h => atoms_spec (ws := .code yX11_force cX11_force 3 (some .int) :: wsA) B.pre w (List.mem_cons_of_mem _ h)
  have hown : s.vm.findClass RX11 = some m.cls := findClass_of_methodNamed B.named
  subst hsz
  have hLA : LA (dm L s.heap.size) L := ⟨hL, fun a h => Or.inl h⟩
  have hA : ∀ q : Nat, s.heap.size ≤ q → dm L s.heap.size q := fun q h => Or.inr h
  have hS : va_S (dm L s.heap.size) s.heap s.heap [] := va_S.rf
  have hB : TS D cA L T r rz [(10, 7)] σ σ ρ s.heap := ⟨hP, hW, FR.rf⟩
  have hl := lv_entry ([.ref h0, .int p1]) (n := 3) (Nat.le_of_ble_eq_true rfl)
  rw [lg_entry_eq]
  generalize (lg_sl ([.ref h0, .int p1]) ++ List.replicate (3 - (lg_sl ([.ref h0, .int p1])).length) Slot.unset).toArray = ls at hl ⊢
  have hl : lv_has ls 3 [(0, .ref h0), (1, .int p1)] := hl
  refine lv_iload_n hx hb dX11_force_0 rfl (lv_at hl 1 rfl) ?_
  refine lv_iconst (v := (-1)) hx hb dX11_force_1 (by decide) ?_
  refine lv_icmp_lt (tgt := 13) hx hb dX11_force_2 (by decide) (fun c_1 => ?_) (fun c_1 => ?_)
  · skip
    have uc_1 := i_lt (n := (-1)) (by decide) c_1
    refine lv_bipush (v := (-2)) hx hb dX11_force_13 (by decide) ?_
    exact W.iret (v := (-2)) hx hb hr (fun t ht hW => ⟨⟨(-2), (σ, ρ), rfl, ⟨hB.2.1, hB.2.2, (if_neg (by omega)).symm⟩, (show TP D cA L T r σ ρ t.heap from by rw [ht]; exact hB.1)⟩, hS.F ht⟩) hS.2.2 dX11_force_15
  · skip
    have uc_1 := i_nlt (n := (-1)) (by decide) c_1
    refine lv_iload_n hx hb dX11_force_5 rfl (lv_at hl 1 rfl) ?_
    refine lv_aload_n hx hb dX11_force_6 rfl (lv_at hl 0 rfl) ?_
    refine t_gi hx hb hts hown hK hB mh0 th0 fi_11_10 rfl mw_2_217 dX11_force_7 (fun x_2 ex_2 lx_2 ux_2 => ?_)
    obtain rfl : x_2 = 0 := i_is (n := 0) (by decide) (by omega)
    refine lv_icmp_lt (tgt := 16) hx hb dX11_force_10 (by decide) (fun c_3 => ?_) (fun c_3 => ?_)
    · skip
      have uc_3 := i_lt (n := 0) (by decide) c_3
      refine lv_aload_n hx hb dX11_force_16 rfl (lv_at hl 0 rfl) ?_
      refine t_gr hx hb hts hown hK hG hB mh0 th0 fq_11_3 rfl mw_2_210 dX11_force_17 (fun b_4 hb_4 mb_4 tb_4 => ?_)
      refine t_gi hx hb hts hown hK hB mb_4 tb_4 fi_10_7 rfl mw_2_15 dX11_force_20 (fun x_5 ex_5 lx_5 ux_5 => ?_)
      obtain rfl : x_5 = (-1) := i_is (n := (-1)) (by decide) (by omega)
      refine lv_istore_n (lv' := [(2, .int (-1)), (0, .ref h0), (1, .int p1)]) hx hb dX11_force_23 rfl hl (by decide) rfl (fun ls hl => ?_)
      refine lv_aload_n hx hb dX11_force_24 rfl (lv_at hl 1 rfl) ?_
      refine t_gk hx hb hts hown hK hB mh0 th0 fq_11_3 hb_4 mw_2_210 dX11_force_25 ?_
      refine lv_iload_n hx hb dX11_force_28 rfl (lv_at hl 2 rfl) ?_
      refine t_pi hx hb hts hown hK hLA hB hS mb_4 tb_4 fi_10_7 rfl rfl rfl (by omega) (by omega) (Or.inl (by decide)) mw_2_15 dX11_force_29 (fun H locs σ_6 eσ_6 hB hS => ?_)
      have k_7 : σ_6 b_4 7 = p1 := by rw [eσ_6]; exact up2_same _ _ _ _
      refine lv_iload_n hx hb dX11_force_32 rfl (lv_at hl 0 rfl) ?_
      exact W.iret (v := (-1)) hx hb hr (fun t ht hW => ⟨⟨(-1), (σ_6, ρ), rfl, ⟨hB.2.1, hB.2.2, (if_pos (by omega)).symm⟩, (show TP D cA L T r σ_6 ρ t.heap from by rw [ht]; exact hB.1)⟩, hS.F ht⟩) hS.2.2 dX11_force_33
    · skip
      have uc_3 := i_nlt (n := 0) (by decide) c_3
      refine lv_bipush (v := (-2)) hx hb dX11_force_13 (by decide) ?_
      exact W.iret (v := (-2)) hx hb hr (fun t ht hW => ⟨⟨(-2), (σ, ρ), rfl, ⟨hB.2.1, hB.2.2, (if_neg (by omega)).symm⟩, (show TP D cA L T r σ ρ t.heap from by rw [ht]; exact hB.1)⟩, hS.F ht⟩) hS.2.2 dX11_force_15
set_option maxHeartbeats 4000000 in
set_option maxRecDepth 100000 in
theorem cz_X11_pilgrim (l : Launch) (D : va_G) (cA : Nat → ClassId) (L : List Nat) (T : Nat → Nat) (r : Rg) (hG : GR L T r) (hL : L.Nodup) (σ : Sg) (ρ : Lg) (hW : WT L rz T σ) (sz : Nat) (h0 : Nat) (mh0 : h0 ∈ L) (th0 : T h0 = 11) (p1 : Int32) (p2 : Int32) (hZ : ZZ L T σ) : Met l yX11_pilgrim (.code yX11_pilgrim cX11_pilgrim 4 (some .int) :: wsA) ({ frames := 1, cells := 0, slots := 0, locals := 21 }) (PR D cA L T r σ ρ sz [.ref h0, .int p1, .int p2]) (QI D cA L T r rz ([] : List (Nat × Nat)) σ sz (fun x σ1 => x = (-1))) 0 0 (dm L sz) := by
  refine Met.ofW (cc := cX11_pilgrim) (maxL := 4) (ret := (some .int)) (by decide) rfl ?_
  intro p e s m args below meth c s₁ B hml hv
  obtain ⟨rfl, hsz, hP, hK, hN⟩ := hv
  have hx := B.exec
  have hb := B.bytes
  have hr := B.returns
  have hts : ∀ w ∈ wsA, w.before _ s = true := fun w h => atoms_spec (ws := .code yX11_pilgrim cX11_pilgrim 4 (some .int) :: wsA) B.pre w (List.mem_cons_of_mem _ h)
  have hown : s.vm.findClass RX11 = some m.cls := findClass_of_methodNamed B.named
  subst hsz
  have hLA : LA (dm L s.heap.size) L := ⟨hL, fun a h => Or.inl h⟩
  have hA : ∀ q : Nat, s.heap.size ≤ q → dm L s.heap.size q := fun q h => Or.inr h
  have hS : va_S (dm L s.heap.size) s.heap s.heap [] := va_S.rf
  have hB : TS D cA L T r rz ([] : List (Nat × Nat)) σ σ ρ s.heap := ⟨hP, hW, FR.rf⟩
  have hl := lv_entry ([.ref h0, .int p1, .int p2]) (n := 4) (Nat.le_of_ble_eq_true rfl)
  rw [lg_entry_eq]
  generalize (lg_sl ([.ref h0, .int p1, .int p2]) ++ List.replicate (4 - (lg_sl ([.ref h0, .int p1, .int p2])).length) Slot.unset).toArray = ls at hl ⊢
  have hl : lv_has ls 4 [(0, .ref h0), (1, .int p1), (2, .int p2)] := hl
  refine lv_aload_n hx hb dX11_pilgrim_0 rfl (lv_at hl 0 rfl) ?_
  refine lv_iload_n hx hb dX11_pilgrim_1 rfl (lv_at hl 1 rfl) ?_
  refine t_ci (va_runV (As := [.int p1]) (rest := []) ⟨hx, hb, hml, hown, hts⟩ (cz_X11_isPilgrim l D cA L T r hG hLA.1 σ ρ hB.2.1 _ h0 mh0 th0 p1) (cV hts mv_X11_isPilgrim mw_4_70 rfl rfl ⟨Nat.le_of_ble_eq_true rfl, Nat.le_of_ble_eq_true rfl⟩) (pV hB.1 hK hN mh0 th0 (show shp cA 11 _ _ _ = .inr (11, Fs11 _ _ _) from rfl) rfl) rfl rfl hl.1 rfl (lv_room (Nat.le_of_ble_eq_true rfl)) dX11_pilgrim_2 ⟨Nat.le_of_ble_eq_true rfl, Nat.le_of_ble_eq_true rfl⟩) hLA hA hB hS (by decide) (fun x_3 σ_1 ρ_2 H locs hB fσ_1 pσ_1 hS => ?_)
  subst pσ_1
  refine lv_if_ne (tgt := 10) hx hb dX11_pilgrim_5 (by decide) (fun c9 => absurd (by decide) c9) (fun _ => ?_)
  refine lv_iconst (v := (-1)) hx hb dX11_pilgrim_8 (by decide) ?_
  exact W.iret (v := (-1)) hx hb hr (fun t ht hW => ⟨⟨(-1), (σ_1, ρ_2), rfl, ⟨hB.2.1, hB.2.2, rfl⟩, (show TP D cA L T r σ_1 ρ_2 t.heap from by rw [ht]; exact hB.1)⟩, hS.F ht⟩) hS.2.2 dX11_pilgrim_9
set_option maxHeartbeats 4000000 in
set_option maxRecDepth 100000 in
theorem cz_X11_bend (l : Launch) (D : va_G) (cA : Nat → ClassId) (L : List Nat) (T : Nat → Nat) (r : Rg) (hG : GR L T r) (hL : L.Nodup) (σ : Sg) (ρ : Lg) (hW : WT L rz T σ) (sz : Nat) (h0 : Nat) (mh0 : h0 ∈ L) (th0 : T h0 = 11) (p1 : Int32) (p2 : Int32) (hZ : ZZ L T σ) : Met l yX11_bend (.code yX11_bend cX11_bend 4 (some .int) :: wsA) ({ frames := 1, cells := 0, slots := 0, locals := 21 }) (PR D cA L T r σ ρ sz [.ref h0, .int p1, .int p2]) (QI D cA L T r rz ([] : List (Nat × Nat)) σ sz (fun x σ1 => x = (-1))) 0 0 (dm L sz) := by
  refine Met.ofW (cc := cX11_bend) (maxL := 4) (ret := (some .int)) (by decide) rfl ?_
  intro p e s m args below meth c s₁ B hml hv
  obtain ⟨rfl, hsz, hP, hK, hN⟩ := hv
  have hx := B.exec
  have hb := B.bytes
  have hr := B.returns
  have hts : ∀ w ∈ wsA, w.before _ s = true := fun w h => atoms_spec (ws := .code yX11_bend cX11_bend 4 (some .int) :: wsA) B.pre w (List.mem_cons_of_mem _ h)
  have hown : s.vm.findClass RX11 = some m.cls := findClass_of_methodNamed B.named
  subst hsz
  have hLA : LA (dm L s.heap.size) L := ⟨hL, fun a h => Or.inl h⟩
  have hA : ∀ q : Nat, s.heap.size ≤ q → dm L s.heap.size q := fun q h => Or.inr h
  have hS : va_S (dm L s.heap.size) s.heap s.heap [] := va_S.rf
  have hB : TS D cA L T r rz ([] : List (Nat × Nat)) σ σ ρ s.heap := ⟨hP, hW, FR.rf⟩
  have hl := lv_entry ([.ref h0, .int p1, .int p2]) (n := 4) (Nat.le_of_ble_eq_true rfl)
  rw [lg_entry_eq]
  generalize (lg_sl ([.ref h0, .int p1, .int p2]) ++ List.replicate (4 - (lg_sl ([.ref h0, .int p1, .int p2])).length) Slot.unset).toArray = ls at hl ⊢
  have hl : lv_has ls 4 [(0, .ref h0), (1, .int p1), (2, .int p2)] := hl
  refine lv_aload_n hx hb dX11_bend_0 rfl (lv_at hl 0 rfl) ?_
  refine lv_iload_n hx hb dX11_bend_1 rfl (lv_at hl 1 rfl) ?_
  refine t_ci (va_runV (As := [.int p1]) (rest := []) ⟨hx, hb, hml, hown, hts⟩ (cz_X11_isBend l D cA L T r hG hLA.1 σ ρ hB.2.1 _ h0 mh0 th0 p1) (cV hts mv_X11_isBend mw_4_79 rfl rfl ⟨Nat.le_of_ble_eq_true rfl, Nat.le_of_ble_eq_true rfl⟩) (pV hB.1 hK hN mh0 th0 (show shp cA 11 _ _ _ = .inr (11, Fs11 _ _ _) from rfl) rfl) rfl rfl hl.1 rfl (lv_room (Nat.le_of_ble_eq_true rfl)) dX11_bend_2 ⟨Nat.le_of_ble_eq_true rfl, Nat.le_of_ble_eq_true rfl⟩) hLA hA hB hS (by decide) (fun x_3 σ_1 ρ_2 H locs hB fσ_1 pσ_1 hS => ?_)
  subst pσ_1
  refine lv_if_ne (tgt := 10) hx hb dX11_bend_5 (by decide) (fun c9 => absurd (by decide) c9) (fun _ => ?_)
  refine lv_iconst (v := (-1)) hx hb dX11_bend_8 (by decide) ?_
  exact W.iret (v := (-1)) hx hb hr (fun t ht hW => ⟨⟨(-1), (σ_1, ρ_2), rfl, ⟨hB.2.1, hB.2.2, rfl⟩, (show TP D cA L T r σ_1 ρ_2 t.heap from by rw [ht]; exact hB.1)⟩, hS.F ht⟩) hS.2.2 dX11_bend_9
set_option maxHeartbeats 4000000 in
set_option maxRecDepth 100000 in
theorem cz_X11_sort (l : Launch) (D : va_G) (cA : Nat → ClassId) (L : List Nat) (T : Nat → Nat) (r : Rg) (hG : GR L T r) (hL : L.Nodup) (σ : Sg) (ρ : Lg) (hW : WT L rz T σ) (sz : Nat) (h0 : Nat) (mh0 : h0 ∈ L) (th0 : T h0 = 11) (p1 : Int32) (p2 : Int32) (hZ : ZZ L T σ) : Met l yX11_sort (.code yX11_sort cX11_sort 4 (some .int) :: wsA) ({ frames := 1, cells := 0, slots := 0, locals := 21 }) (PR D cA L T r σ ρ sz [.ref h0, .int p1, .int p2]) (QI D cA L T r rz ([] : List (Nat × Nat)) σ sz (fun x σ1 => x = (-1))) 0 0 (dm L sz) := by
  refine Met.ofW (cc := cX11_sort) (maxL := 4) (ret := (some .int)) (by decide) rfl ?_
  intro p e s m args below meth c s₁ B hml hv
  obtain ⟨rfl, hsz, hP, hK, hN⟩ := hv
  have hx := B.exec
  have hb := B.bytes
  have hr := B.returns
  have hts : ∀ w ∈ wsA, w.before _ s = true := fun w h => atoms_spec (ws := .code yX11_sort cX11_sort 4 (some .int) :: wsA) B.pre w (List.mem_cons_of_mem _ h)
  have hown : s.vm.findClass RX11 = some m.cls := findClass_of_methodNamed B.named
  subst hsz
  have hLA : LA (dm L s.heap.size) L := ⟨hL, fun a h => Or.inl h⟩
  have hA : ∀ q : Nat, s.heap.size ≤ q → dm L s.heap.size q := fun q h => Or.inr h
  have hS : va_S (dm L s.heap.size) s.heap s.heap [] := va_S.rf
  have hB : TS D cA L T r rz ([] : List (Nat × Nat)) σ σ ρ s.heap := ⟨hP, hW, FR.rf⟩
  have hl := lv_entry ([.ref h0, .int p1, .int p2]) (n := 4) (Nat.le_of_ble_eq_true rfl)
  rw [lg_entry_eq]
  generalize (lg_sl ([.ref h0, .int p1, .int p2]) ++ List.replicate (4 - (lg_sl ([.ref h0, .int p1, .int p2])).length) Slot.unset).toArray = ls at hl ⊢
  have hl : lv_has ls 4 [(0, .ref h0), (1, .int p1), (2, .int p2)] := hl
  refine lv_aload_n hx hb dX11_sort_0 rfl (lv_at hl 0 rfl) ?_
  refine lv_iload_n hx hb dX11_sort_1 rfl (lv_at hl 1 rfl) ?_
  refine t_ci (va_runV (As := [.int p1]) (rest := []) ⟨hx, hb, hml, hown, hts⟩ (cz_X11_isSort l D cA L T r hG hLA.1 σ ρ hB.2.1 _ h0 mh0 th0 p1) (cV hts mv_X11_isSort mw_4_91 rfl rfl ⟨Nat.le_of_ble_eq_true rfl, Nat.le_of_ble_eq_true rfl⟩) (pV hB.1 hK hN mh0 th0 (show shp cA 11 _ _ _ = .inr (11, Fs11 _ _ _) from rfl) rfl) rfl rfl hl.1 rfl (lv_room (Nat.le_of_ble_eq_true rfl)) dX11_sort_2 ⟨Nat.le_of_ble_eq_true rfl, Nat.le_of_ble_eq_true rfl⟩) hLA hA hB hS (by decide) (fun x_3 σ_1 ρ_2 H locs hB fσ_1 pσ_1 hS => ?_)
  subst pσ_1
  refine lv_if_ne (tgt := 10) hx hb dX11_sort_5 (by decide) (fun c9 => absurd (by decide) c9) (fun _ => ?_)
  refine lv_iconst (v := (-1)) hx hb dX11_sort_8 (by decide) ?_
  exact W.iret (v := (-1)) hx hb hr (fun t ht hW => ⟨⟨(-1), (σ_1, ρ_2), rfl, ⟨hB.2.1, hB.2.2, rfl⟩, (show TP D cA L T r σ_1 ρ_2 t.heap from by rw [ht]; exact hB.1)⟩, hS.F ht⟩) hS.2.2 dX11_sort_9
set_option maxHeartbeats 4000000 in
set_option maxRecDepth 100000 in
theorem cz_X11_night (l : Launch) (D : va_G) (cA : Nat → ClassId) (L : List Nat) (T : Nat → Nat) (r : Rg) (hG : GR L T r) (hL : L.Nodup) (σ : Sg) (ρ : Lg) (hW : WT L rz T σ) (sz : Nat) (h0 : Nat) (mh0 : h0 ∈ L) (th0 : T h0 = 11) (hZ : ZZ L T σ) : Met l yX11_night (.code yX11_night cX11_night 3 (some .int) :: wsA) ({ frames := 0, cells := 0, slots := 0, locals := 0 }) (PR D cA L T r σ ρ sz [.ref h0]) (QI D cA L T r rz ([] : List (Nat × Nat)) σ sz (fun x σ1 => x = (-1))) 0 0 (dm L sz) := by
  refine Met.ofW (cc := cX11_night) (maxL := 3) (ret := (some .int)) (by decide) rfl ?_
  intro p e s m args below meth c s₁ B hml hv
  obtain ⟨rfl, hsz, hP, hK, hN⟩ := hv
  have hx := B.exec
  have hb := B.bytes
  have hr := B.returns
  have hts : ∀ w ∈ wsA, w.before _ s = true := fun w h => atoms_spec (ws := .code yX11_night cX11_night 3 (some .int) :: wsA) B.pre w (List.mem_cons_of_mem _ h)
  have hown : s.vm.findClass RX11 = some m.cls := findClass_of_methodNamed B.named
  subst hsz
  have hLA : LA (dm L s.heap.size) L := ⟨hL, fun a h => Or.inl h⟩
  have hA : ∀ q : Nat, s.heap.size ≤ q → dm L s.heap.size q := fun q h => Or.inr h
  have hS : va_S (dm L s.heap.size) s.heap s.heap [] := va_S.rf
  have hB : TS D cA L T r rz ([] : List (Nat × Nat)) σ σ ρ s.heap := ⟨hP, hW, FR.rf⟩
  have hl := lv_entry ([.ref h0]) (n := 3) (Nat.le_of_ble_eq_true rfl)
  rw [lg_entry_eq]
  generalize (lg_sl ([.ref h0]) ++ List.replicate (3 - (lg_sl ([.ref h0])).length) Slot.unset).toArray = ls at hl ⊢
  have hl : lv_has ls 3 [(0, .ref h0)] := hl
  refine lv_aload_n hx hb dX11_night_0 rfl (lv_at hl 0 rfl) ?_
  refine t_gr hx hb hts hown hK hG hB mh0 th0 fq_11_3 rfl mw_2_210 dX11_night_1 (fun b_1 hb_1 mb_1 tb_1 => ?_)
  refine t_gr hx hb hts hown hK hG hB mb_1 tb_1 fq_10_1 rfl mw_1_239 dX11_night_4 (fun b_2 hb_2 mb_2 tb_2 => ?_)
  refine lv_astore_n (lv' := [(1, .ref b_2), (0, .ref h0)]) hx hb dX11_night_7 rfl hl (by decide) rfl (fun ls hl => ?_)
  refine lv_aload_n hx hb dX11_night_8 rfl (lv_at hl 1 rfl) ?_
  refine t_gk hx hb hts hown hK hB mh0 th0 fq_11_3 hb_1 mw_2_210 dX11_night_9 ?_
  refine t_gr hx hb hts hown hK hG hB mb_1 tb_1 fq_10_0 rfl mw_1_236 dX11_night_12 (fun b_3 hb_3 mb_3 tb_3 => ?_)
  refine t_gv hx hb hts hown hK hB mb_3 tb_3 fi_3_6 (hZ.at (j := 6) mb_3 tb_3 (by decide : ini 3 6 = 0)) mw_1_164 dX11_night_15 ?_
  refine lv_if_eq (tgt := 31) hx hb dX11_night_18 (by decide) (fun _ => ?_) (fun c9 => absurd (by decide) c9)
  refine lv_iconst (v := (-1)) hx hb dX11_night_31 (by decide) ?_
  exact W.iret (v := (-1)) hx hb hr (fun t ht hW => ⟨⟨(-1), (σ, ρ), rfl, ⟨hB.2.1, hB.2.2, rfl⟩, (show TP D cA L T r σ ρ t.heap from by rw [ht]; exact hB.1)⟩, hS.F ht⟩) hS.2.2 dX11_night_32
set_option maxHeartbeats 4000000 in
set_option maxRecDepth 100000 in
theorem cz_X11_climb (l : Launch) (D : va_G) (cA : Nat → ClassId) (L : List Nat) (T : Nat → Nat) (r : Rg) (hG : GR L T r) (hL : L.Nodup) (σ : Sg) (ρ : Lg) (hW : WT L rz T σ) (sz : Nat) (h0 : Nat) (mh0 : h0 ∈ L) (th0 : T h0 = 11) (p1 : Int32) (hZ : ZZ L T σ) : Met l yX11_climb (.code yX11_climb cX11_climb 3 (some .int) :: wsA) ({ frames := 1, cells := 0, slots := 0, locals := 21 }) (PR D cA L T r σ ρ sz [.ref h0, .int p1]) (QI D cA L T r rz ([] : List (Nat × Nat)) σ sz (fun x σ1 => x = (-1))) 0 0 (dm L sz) := by
  refine Met.ofW (cc := cX11_climb) (maxL := 3) (ret := (some .int)) (by decide) rfl ?_
  intro p e s m args below meth c s₁ B hml hv
  obtain ⟨rfl, hsz, hP, hK, hN⟩ := hv
  have hx := B.exec
  have hb := B.bytes
  have hr := B.returns
  have hts : ∀ w ∈ wsA, w.before _ s = true := fun w h => atoms_spec (ws := .code yX11_climb cX11_climb 3 (some .int) :: wsA) B.pre w (List.mem_cons_of_mem _ h)
  have hown : s.vm.findClass RX11 = some m.cls := findClass_of_methodNamed B.named
  subst hsz
  have hLA : LA (dm L s.heap.size) L := ⟨hL, fun a h => Or.inl h⟩
  have hA : ∀ q : Nat, s.heap.size ≤ q → dm L s.heap.size q := fun q h => Or.inr h
  have hS : va_S (dm L s.heap.size) s.heap s.heap [] := va_S.rf
  have hB : TS D cA L T r rz ([] : List (Nat × Nat)) σ σ ρ s.heap := ⟨hP, hW, FR.rf⟩
  have hl := lv_entry ([.ref h0, .int p1]) (n := 3) (Nat.le_of_ble_eq_true rfl)
  rw [lg_entry_eq]
  generalize (lg_sl ([.ref h0, .int p1]) ++ List.replicate (3 - (lg_sl ([.ref h0, .int p1])).length) Slot.unset).toArray = ls at hl ⊢
  have hl : lv_has ls 3 [(0, .ref h0), (1, .int p1)] := hl
  refine lv_aload_n hx hb dX11_climb_0 rfl (lv_at hl 0 rfl) ?_
  refine t_gr hx hb hts hown hK hG hB mh0 th0 fq_11_3 rfl mw_2_210 dX11_climb_1 (fun b_1 hb_1 mb_1 tb_1 => ?_)
  refine t_gr hx hb hts hown hK hG hB mb_1 tb_1 fq_10_1 rfl mw_1_239 dX11_climb_4 (fun b_2 hb_2 mb_2 tb_2 => ?_)
  refine lv_astore_n (lv' := [(2, .ref b_2), (0, .ref h0), (1, .int p1)]) hx hb dX11_climb_7 rfl hl (by decide) rfl (fun ls hl => ?_)
  refine lv_aload_n hx hb dX11_climb_8 rfl (lv_at hl 1 rfl) ?_
  refine lv_iload_n hx hb dX11_climb_9 rfl (lv_at hl 2 rfl) ?_
  refine t_ci (va_runV (As := [.int p1]) (rest := []) ⟨hx, hb, hml, hown, hts⟩ (cz_X11_isPilgrim l D cA L T r hG hLA.1 σ ρ hB.2.1 _ h0 mh0 th0 p1) (cV hts mv_X11_isPilgrim mw_4_70 rfl rfl ⟨Nat.le_of_ble_eq_true rfl, Nat.le_of_ble_eq_true rfl⟩) (pV hB.1 hK hN mh0 th0 (show shp cA 11 _ _ _ = .inr (11, Fs11 _ _ _) from rfl) rfl) rfl rfl hl.1 rfl (lv_room (Nat.le_of_ble_eq_true rfl)) dX11_climb_10 ⟨Nat.le_of_ble_eq_true rfl, Nat.le_of_ble_eq_true rfl⟩) hLA hA hB hS (by decide) (fun x_5 σ_3 ρ_4 H locs hB fσ_3 pσ_3 hS => ?_)
  subst pσ_3
  refine lv_if_eq (tgt := 31) hx hb dX11_climb_13 (by decide) (fun _ => ?_) (fun c9 => absurd (by decide) c9)
  refine lv_iconst (v := (-1)) hx hb dX11_climb_31 (by decide) ?_
  exact W.iret (v := (-1)) hx hb hr (fun t ht hW => ⟨⟨(-1), (σ_3, ρ_4), rfl, ⟨hB.2.1, hB.2.2, rfl⟩, (show TP D cA L T r σ_3 ρ_4 t.heap from by rw [ht]; exact hB.1)⟩, hS.F ht⟩) hS.2.2 dX11_climb_32
set_option maxHeartbeats 4000000 in
set_option maxRecDepth 100000 in
theorem cz_X11_down (l : Launch) (D : va_G) (cA : Nat → ClassId) (L : List Nat) (T : Nat → Nat) (r : Rg) (hG : GR L T r) (hL : L.Nodup) (σ : Sg) (ρ : Lg) (hW : WT L rz T σ) (sz : Nat) (h0 : Nat) (mh0 : h0 ∈ L) (th0 : T h0 = 11) (p1 : Int32) (hZ : ZZ L T σ) : Met l yX11_down (.code yX11_down cX11_down 3 (some .int) :: wsA) ({ frames := 1, cells := 0, slots := 0, locals := 21 }) (PR D cA L T r σ ρ sz [.ref h0, .int p1]) (QI D cA L T r rz ([] : List (Nat × Nat)) σ sz (fun x σ1 => x = (-1))) 0 0 (dm L sz) := by
  refine Met.ofW (cc := cX11_down) (maxL := 3) (ret := (some .int)) (by decide) rfl ?_
  intro p e s m args below meth c s₁ B hml hv
  obtain ⟨rfl, hsz, hP, hK, hN⟩ := hv
  have hx := B.exec
  have hb := B.bytes
  have hr := B.returns
  have hts : ∀ w ∈ wsA, w.before _ s = true := fun w h => atoms_spec (ws := .code yX11_down cX11_down 3 (some .int) :: wsA) B.pre w (List.mem_cons_of_mem _ h)
  have hown : s.vm.findClass RX11 = some m.cls := findClass_of_methodNamed B.named
  subst hsz
  have hLA : LA (dm L s.heap.size) L := ⟨hL, fun a h => Or.inl h⟩
  have hA : ∀ q : Nat, s.heap.size ≤ q → dm L s.heap.size q := fun q h => Or.inr h
  have hS : va_S (dm L s.heap.size) s.heap s.heap [] := va_S.rf
  have hB : TS D cA L T r rz ([] : List (Nat × Nat)) σ σ ρ s.heap := ⟨hP, hW, FR.rf⟩
  have hl := lv_entry ([.ref h0, .int p1]) (n := 3) (Nat.le_of_ble_eq_true rfl)
  rw [lg_entry_eq]
  generalize (lg_sl ([.ref h0, .int p1]) ++ List.replicate (3 - (lg_sl ([.ref h0, .int p1])).length) Slot.unset).toArray = ls at hl ⊢
  have hl : lv_has ls 3 [(0, .ref h0), (1, .int p1)] := hl
  refine lv_aload_n hx hb dX11_down_0 rfl (lv_at hl 0 rfl) ?_
  refine t_gr hx hb hts hown hK hG hB mh0 th0 fq_11_3 rfl mw_2_210 dX11_down_1 (fun b_1 hb_1 mb_1 tb_1 => ?_)
  refine t_gr hx hb hts hown hK hG hB mb_1 tb_1 fq_10_1 rfl mw_1_239 dX11_down_4 (fun b_2 hb_2 mb_2 tb_2 => ?_)
  refine lv_astore_n (lv' := [(2, .ref b_2), (0, .ref h0), (1, .int p1)]) hx hb dX11_down_7 rfl hl (by decide) rfl (fun ls hl => ?_)
  refine lv_aload_n hx hb dX11_down_8 rfl (lv_at hl 1 rfl) ?_
  refine lv_iload_n hx hb dX11_down_9 rfl (lv_at hl 2 rfl) ?_
  refine t_ci (va_runV (As := [.int p1]) (rest := []) ⟨hx, hb, hml, hown, hts⟩ (cz_X11_isPilgrim l D cA L T r hG hLA.1 σ ρ hB.2.1 _ h0 mh0 th0 p1) (cV hts mv_X11_isPilgrim mw_4_70 rfl rfl ⟨Nat.le_of_ble_eq_true rfl, Nat.le_of_ble_eq_true rfl⟩) (pV hB.1 hK hN mh0 th0 (show shp cA 11 _ _ _ = .inr (11, Fs11 _ _ _) from rfl) rfl) rfl rfl hl.1 rfl (lv_room (Nat.le_of_ble_eq_true rfl)) dX11_down_10 ⟨Nat.le_of_ble_eq_true rfl, Nat.le_of_ble_eq_true rfl⟩) hLA hA hB hS (by decide) (fun x_5 σ_3 ρ_4 H locs hB fσ_3 pσ_3 hS => ?_)
  subst pσ_3
  refine lv_if_eq (tgt := 25) hx hb dX11_down_13 (by decide) (fun _ => ?_) (fun c9 => absurd (by decide) c9)
  refine lv_iconst (v := (-1)) hx hb dX11_down_25 (by decide) ?_
  exact W.iret (v := (-1)) hx hb hr (fun t ht hW => ⟨⟨(-1), (σ_3, ρ_4), rfl, ⟨hB.2.1, hB.2.2, rfl⟩, (show TP D cA L T r σ_3 ρ_4 t.heap from by rw [ht]; exact hB.1)⟩, hS.F ht⟩) hS.2.2 dX11_down_26
set_option maxHeartbeats 4000000 in
set_option maxRecDepth 100000 in
theorem cz_X11_take (l : Launch) (D : va_G) (cA : Nat → ClassId) (L : List Nat) (T : Nat → Nat) (r : Rg) (hG : GR L T r) (hL : L.Nodup) (σ : Sg) (ρ : Lg) (hW : WT L rz T σ) (sz : Nat) (h0 : Nat) (mh0 : h0 ∈ L) (th0 : T h0 = 11) (p1 : Int32) (p2 : Int32) (hZ : ZZ L T σ) : Met l yX11_take (.code yX11_take cX11_take 4 (some .int) :: wsA) ({ frames := 1, cells := 0, slots := 0, locals := 21 }) (PR D cA L T r σ ρ sz [.ref h0, .int p1, .int p2]) (QI D cA L T r rz ([] : List (Nat × Nat)) σ sz (fun x σ1 => x = (-1))) 0 0 (dm L sz) := by
  refine Met.ofW (cc := cX11_take) (maxL := 4) (ret := (some .int)) (by decide) rfl ?_
  intro p e s m args below meth c s₁ B hml hv
  obtain ⟨rfl, hsz, hP, hK, hN⟩ := hv
  have hx := B.exec
  have hb := B.bytes
  have hr := B.returns
  have hts : ∀ w ∈ wsA, w.before _ s = true := fun w h => atoms_spec (ws := .code yX11_take cX11_take 4 (some .int) :: wsA) B.pre w (List.mem_cons_of_mem _ h)
  have hown : s.vm.findClass RX11 = some m.cls := findClass_of_methodNamed B.named
  subst hsz
  have hLA : LA (dm L s.heap.size) L := ⟨hL, fun a h => Or.inl h⟩
  have hA : ∀ q : Nat, s.heap.size ≤ q → dm L s.heap.size q := fun q h => Or.inr h
  have hS : va_S (dm L s.heap.size) s.heap s.heap [] := va_S.rf
  have hB : TS D cA L T r rz ([] : List (Nat × Nat)) σ σ ρ s.heap := ⟨hP, hW, FR.rf⟩
  have hl := lv_entry ([.ref h0, .int p1, .int p2]) (n := 4) (Nat.le_of_ble_eq_true rfl)
  rw [lg_entry_eq]
  generalize (lg_sl ([.ref h0, .int p1, .int p2]) ++ List.replicate (4 - (lg_sl ([.ref h0, .int p1, .int p2])).length) Slot.unset).toArray = ls at hl ⊢
  have hl : lv_has ls 4 [(0, .ref h0), (1, .int p1), (2, .int p2)] := hl
  refine lv_aload_n hx hb dX11_take_0 rfl (lv_at hl 0 rfl) ?_
  refine t_gr hx hb hts hown hK hG hB mh0 th0 fq_11_3 rfl mw_2_210 dX11_take_1 (fun b_1 hb_1 mb_1 tb_1 => ?_)
  refine t_gr hx hb hts hown hK hG hB mb_1 tb_1 fq_10_1 rfl mw_1_239 dX11_take_4 (fun b_2 hb_2 mb_2 tb_2 => ?_)
  refine lv_astore_n (lv' := [(3, .ref b_2), (0, .ref h0), (1, .int p1), (2, .int p2)]) hx hb dX11_take_7 rfl hl (by decide) rfl (fun ls hl => ?_)
  refine lv_aload_n hx hb dX11_take_8 rfl (lv_at hl 1 rfl) ?_
  refine lv_iload_n hx hb dX11_take_9 rfl (lv_at hl 2 rfl) ?_
  refine t_ci (va_runV (As := [.int p1]) (rest := []) ⟨hx, hb, hml, hown, hts⟩ (cz_X11_isPilgrim l D cA L T r hG hLA.1 σ ρ hB.2.1 _ h0 mh0 th0 p1) (cV hts mv_X11_isPilgrim mw_4_70 rfl rfl ⟨Nat.le_of_ble_eq_true rfl, Nat.le_of_ble_eq_true rfl⟩) (pV hB.1 hK hN mh0 th0 (show shp cA 11 _ _ _ = .inr (11, Fs11 _ _ _) from rfl) rfl) rfl rfl hl.1 rfl (lv_room (Nat.le_of_ble_eq_true rfl)) dX11_take_10 ⟨Nat.le_of_ble_eq_true rfl, Nat.le_of_ble_eq_true rfl⟩) hLA hA hB hS (by decide) (fun x_5 σ_3 ρ_4 H locs hB fσ_3 pσ_3 hS => ?_)
  subst pσ_3
  refine lv_if_eq (tgt := 40) hx hb dX11_take_13 (by decide) (fun _ => ?_) (fun c9 => absurd (by decide) c9)
  refine lv_iconst (v := (-1)) hx hb dX11_take_40 (by decide) ?_
  exact W.iret (v := (-1)) hx hb hr (fun t ht hW => ⟨⟨(-1), (σ_3, ρ_4), rfl, ⟨hB.2.1, hB.2.2, rfl⟩, (show TP D cA L T r σ_3 ρ_4 t.heap from by rw [ht]; exact hB.1)⟩, hS.F ht⟩) hS.2.2 dX11_take_41
set_option maxHeartbeats 4000000 in
set_option maxRecDepth 100000 in
theorem cz_X11_buy (l : Launch) (D : va_G) (cA : Nat → ClassId) (L : List Nat) (T : Nat → Nat) (r : Rg) (hG : GR L T r) (hL : L.Nodup) (σ : Sg) (ρ : Lg) (hW : WT L rz T σ) (sz : Nat) (h0 : Nat) (mh0 : h0 ∈ L) (th0 : T h0 = 11) (p1 : Int32) (p2 : Int32) (hZ : ZZ L T σ) : Met l yX11_buy (.code yX11_buy cX11_buy 4 (some .int) :: wsA) ({ frames := 1, cells := 0, slots := 0, locals := 21 }) (PR D cA L T r σ ρ sz [.ref h0, .int p1, .int p2]) (QI D cA L T r rz ([] : List (Nat × Nat)) σ sz (fun x σ1 => x = (-1))) 0 0 (dm L sz) := by
  refine Met.ofW (cc := cX11_buy) (maxL := 4) (ret := (some .int)) (by decide) rfl ?_
  intro p e s m args below meth c s₁ B hml hv
  obtain ⟨rfl, hsz, hP, hK, hN⟩ := hv
  have hx := B.exec
  have hb := B.bytes
  have hr := B.returns
  have hts : ∀ w ∈ wsA, w.before _ s = true := fun w h => atoms_spec (ws := .code yX11_buy cX11_buy 4 (some .int) :: wsA) B.pre w (List.mem_cons_of_mem _ h)
  have hown : s.vm.findClass RX11 = some m.cls := findClass_of_methodNamed B.named
  subst hsz
  have hLA : LA (dm L s.heap.size) L := ⟨hL, fun a h => Or.inl h⟩
  have hA : ∀ q : Nat, s.heap.size ≤ q → dm L s.heap.size q := fun q h => Or.inr h
  have hS : va_S (dm L s.heap.size) s.heap s.heap [] := va_S.rf
  have hB : TS D cA L T r rz ([] : List (Nat × Nat)) σ σ ρ s.heap := ⟨hP, hW, FR.rf⟩
  have hl := lv_entry ([.ref h0, .int p1, .int p2]) (n := 4) (Nat.le_of_ble_eq_true rfl)
  rw [lg_entry_eq]
  generalize (lg_sl ([.ref h0, .int p1, .int p2]) ++ List.replicate (4 - (lg_sl ([.ref h0, .int p1, .int p2])).length) Slot.unset).toArray = ls at hl ⊢
  have hl : lv_has ls 4 [(0, .ref h0), (1, .int p1), (2, .int p2)] := hl
  refine lv_aload_n hx hb dX11_buy_0 rfl (lv_at hl 0 rfl) ?_
  refine t_gr hx hb hts hown hK hG hB mh0 th0 fq_11_3 rfl mw_2_210 dX11_buy_1 (fun b_1 hb_1 mb_1 tb_1 => ?_)
  refine t_gr hx hb hts hown hK hG hB mb_1 tb_1 fq_10_1 rfl mw_1_239 dX11_buy_4 (fun b_2 hb_2 mb_2 tb_2 => ?_)
  refine lv_astore_n (lv' := [(3, .ref b_2), (0, .ref h0), (1, .int p1), (2, .int p2)]) hx hb dX11_buy_7 rfl hl (by decide) rfl (fun ls hl => ?_)
  refine lv_aload_n hx hb dX11_buy_8 rfl (lv_at hl 1 rfl) ?_
  refine lv_iload_n hx hb dX11_buy_9 rfl (lv_at hl 2 rfl) ?_
  refine t_ci (va_runV (As := [.int p1]) (rest := []) ⟨hx, hb, hml, hown, hts⟩ (cz_X11_isPilgrim l D cA L T r hG hLA.1 σ ρ hB.2.1 _ h0 mh0 th0 p1) (cV hts mv_X11_isPilgrim mw_4_70 rfl rfl ⟨Nat.le_of_ble_eq_true rfl, Nat.le_of_ble_eq_true rfl⟩) (pV hB.1 hK hN mh0 th0 (show shp cA 11 _ _ _ = .inr (11, Fs11 _ _ _) from rfl) rfl) rfl rfl hl.1 rfl (lv_room (Nat.le_of_ble_eq_true rfl)) dX11_buy_10 ⟨Nat.le_of_ble_eq_true rfl, Nat.le_of_ble_eq_true rfl⟩) hLA hA hB hS (by decide) (fun x_5 σ_3 ρ_4 H locs hB fσ_3 pσ_3 hS => ?_)
  subst pσ_3
  refine lv_if_eq (tgt := 40) hx hb dX11_buy_13 (by decide) (fun _ => ?_) (fun c9 => absurd (by decide) c9)
  refine lv_iconst (v := (-1)) hx hb dX11_buy_40 (by decide) ?_
  exact W.iret (v := (-1)) hx hb hr (fun t ht hW => ⟨⟨(-1), (σ_3, ρ_4), rfl, ⟨hB.2.1, hB.2.2, rfl⟩, (show TP D cA L T r σ_3 ρ_4 t.heap from by rw [ht]; exact hB.1)⟩, hS.F ht⟩) hS.2.2 dX11_buy_41
set_option maxHeartbeats 4000000 in
set_option maxRecDepth 100000 in
theorem cz_X11_sell (l : Launch) (D : va_G) (cA : Nat → ClassId) (L : List Nat) (T : Nat → Nat) (r : Rg) (hG : GR L T r) (hL : L.Nodup) (σ : Sg) (ρ : Lg) (hW : WT L rz T σ) (sz : Nat) (h0 : Nat) (mh0 : h0 ∈ L) (th0 : T h0 = 11) (p1 : Int32) (p2 : Int32) (hZ : ZZ L T σ) : Met l yX11_sell (.code yX11_sell cX11_sell 4 (some .int) :: wsA) ({ frames := 1, cells := 0, slots := 0, locals := 21 }) (PR D cA L T r σ ρ sz [.ref h0, .int p1, .int p2]) (QI D cA L T r rz ([] : List (Nat × Nat)) σ sz (fun x σ1 => x = (-1))) 0 0 (dm L sz) := by
  refine Met.ofW (cc := cX11_sell) (maxL := 4) (ret := (some .int)) (by decide) rfl ?_
  intro p e s m args below meth c s₁ B hml hv
  obtain ⟨rfl, hsz, hP, hK, hN⟩ := hv
  have hx := B.exec
  have hb := B.bytes
  have hr := B.returns
  have hts : ∀ w ∈ wsA, w.before _ s = true := fun w h => atoms_spec (ws := .code yX11_sell cX11_sell 4 (some .int) :: wsA) B.pre w (List.mem_cons_of_mem _ h)
  have hown : s.vm.findClass RX11 = some m.cls := findClass_of_methodNamed B.named
  subst hsz
  have hLA : LA (dm L s.heap.size) L := ⟨hL, fun a h => Or.inl h⟩
  have hA : ∀ q : Nat, s.heap.size ≤ q → dm L s.heap.size q := fun q h => Or.inr h
  have hS : va_S (dm L s.heap.size) s.heap s.heap [] := va_S.rf
  have hB : TS D cA L T r rz ([] : List (Nat × Nat)) σ σ ρ s.heap := ⟨hP, hW, FR.rf⟩
  have hl := lv_entry ([.ref h0, .int p1, .int p2]) (n := 4) (Nat.le_of_ble_eq_true rfl)
  rw [lg_entry_eq]
  generalize (lg_sl ([.ref h0, .int p1, .int p2]) ++ List.replicate (4 - (lg_sl ([.ref h0, .int p1, .int p2])).length) Slot.unset).toArray = ls at hl ⊢
  have hl : lv_has ls 4 [(0, .ref h0), (1, .int p1), (2, .int p2)] := hl
  refine lv_aload_n hx hb dX11_sell_0 rfl (lv_at hl 0 rfl) ?_
  refine t_gr hx hb hts hown hK hG hB mh0 th0 fq_11_3 rfl mw_2_210 dX11_sell_1 (fun b_1 hb_1 mb_1 tb_1 => ?_)
  refine t_gr hx hb hts hown hK hG hB mb_1 tb_1 fq_10_1 rfl mw_1_239 dX11_sell_4 (fun b_2 hb_2 mb_2 tb_2 => ?_)
  refine lv_astore_n (lv' := [(3, .ref b_2), (0, .ref h0), (1, .int p1), (2, .int p2)]) hx hb dX11_sell_7 rfl hl (by decide) rfl (fun ls hl => ?_)
  refine lv_aload_n hx hb dX11_sell_8 rfl (lv_at hl 1 rfl) ?_
  refine lv_iload_n hx hb dX11_sell_9 rfl (lv_at hl 2 rfl) ?_
  refine t_ci (va_runV (As := [.int p1]) (rest := []) ⟨hx, hb, hml, hown, hts⟩ (cz_X11_isPilgrim l D cA L T r hG hLA.1 σ ρ hB.2.1 _ h0 mh0 th0 p1) (cV hts mv_X11_isPilgrim mw_4_70 rfl rfl ⟨Nat.le_of_ble_eq_true rfl, Nat.le_of_ble_eq_true rfl⟩) (pV hB.1 hK hN mh0 th0 (show shp cA 11 _ _ _ = .inr (11, Fs11 _ _ _) from rfl) rfl) rfl rfl hl.1 rfl (lv_room (Nat.le_of_ble_eq_true rfl)) dX11_sell_10 ⟨Nat.le_of_ble_eq_true rfl, Nat.le_of_ble_eq_true rfl⟩) hLA hA hB hS (by decide) (fun x_5 σ_3 ρ_4 H locs hB fσ_3 pσ_3 hS => ?_)
  subst pσ_3
  refine lv_if_eq (tgt := 33) hx hb dX11_sell_13 (by decide) (fun _ => ?_) (fun c9 => absurd (by decide) c9)
  refine lv_iconst (v := (-1)) hx hb dX11_sell_33 (by decide) ?_
  exact W.iret (v := (-1)) hx hb hr (fun t ht hW => ⟨⟨(-1), (σ_3, ρ_4), rfl, ⟨hB.2.1, hB.2.2, rfl⟩, (show TP D cA L T r σ_3 ρ_4 t.heap from by rw [ht]; exact hB.1)⟩, hS.F ht⟩) hS.2.2 dX11_sell_34
set_option maxHeartbeats 4000000 in
set_option maxRecDepth 100000 in
theorem cz_X11_hand (l : Launch) (D : va_G) (cA : Nat → ClassId) (L : List Nat) (T : Nat → Nat) (r : Rg) (hG : GR L T r) (hL : L.Nodup) (σ : Sg) (ρ : Lg) (hW : WT L rz T σ) (sz : Nat) (h0 : Nat) (mh0 : h0 ∈ L) (th0 : T h0 = 11) (p1 : Int32) (p2 : Int32) (p3 : Int32) (hZ : ZZ L T σ) : Met l yX11_hand (.code yX11_hand cX11_hand 5 (some .int) :: wsA) ({ frames := 2, cells := 0, slots := 0, locals := 43 }) (PR D cA L T r σ ρ sz [.ref h0, .int p1, .int p2, .int p3]) (QI D cA L T r rz ([] : List (Nat × Nat)) σ sz (fun x σ1 => x = (-1))) 0 0 (dm L sz) := by
  refine Met.ofW (cc := cX11_hand) (maxL := 5) (ret := (some .int)) (by decide) rfl ?_
  intro p e s m args below meth c s₁ B hml hv
  obtain ⟨rfl, hsz, hP, hK, hN⟩ := hv
  have hx := B.exec
  have hb := B.bytes
  have hr := B.returns
  have hts : ∀ w ∈ wsA, w.before _ s = true := fun w h => atoms_spec (ws := .code yX11_hand cX11_hand 5 (some .int) :: wsA) B.pre w (List.mem_cons_of_mem _ h)
  have hown : s.vm.findClass RX11 = some m.cls := findClass_of_methodNamed B.named
  subst hsz
  have hLA : LA (dm L s.heap.size) L := ⟨hL, fun a h => Or.inl h⟩
  have hA : ∀ q : Nat, s.heap.size ≤ q → dm L s.heap.size q := fun q h => Or.inr h
  have hS : va_S (dm L s.heap.size) s.heap s.heap [] := va_S.rf
  have hB : TS D cA L T r rz ([] : List (Nat × Nat)) σ σ ρ s.heap := ⟨hP, hW, FR.rf⟩
  have hl := lv_entry ([.ref h0, .int p1, .int p2, .int p3]) (n := 5) (Nat.le_of_ble_eq_true rfl)
  rw [lg_entry_eq]
  generalize (lg_sl ([.ref h0, .int p1, .int p2, .int p3]) ++ List.replicate (5 - (lg_sl ([.ref h0, .int p1, .int p2, .int p3])).length) Slot.unset).toArray = ls at hl ⊢
  have hl : lv_has ls 5 [(0, .ref h0), (1, .int p1), (2, .int p2), (3, .int p3)] := hl
  refine lv_aload_n hx hb dX11_hand_0 rfl (lv_at hl 0 rfl) ?_
  refine t_gr hx hb hts hown hK hG hB mh0 th0 fq_11_3 rfl mw_2_210 dX11_hand_1 (fun b_1 hb_1 mb_1 tb_1 => ?_)
  refine t_gr hx hb hts hown hK hG hB mb_1 tb_1 fq_10_1 rfl mw_1_239 dX11_hand_4 (fun b_2 hb_2 mb_2 tb_2 => ?_)
  refine lv_astore (lv' := [(4, .ref b_2), (0, .ref h0), (1, .int p1), (2, .int p2), (3, .int p3)]) hx hb dX11_hand_7 hl (by decide) rfl (fun ls hl => ?_)
  refine lv_aload_n hx hb dX11_hand_9 rfl (lv_at hl 1 rfl) ?_
  refine lv_iload_n hx hb dX11_hand_10 rfl (lv_at hl 2 rfl) ?_
  refine lv_iload_n hx hb dX11_hand_11 rfl (lv_at hl 3 rfl) ?_
  refine t_ci (va_runV (As := [.int p1, .int p2]) (rest := []) ⟨hx, hb, hml, hown, hts⟩ (cz_X11_areTogether l D cA L T r hG hLA.1 σ ρ hB.2.1 _ h0 mh0 th0 p1 p2) (cV hts mv_X11_areTogether mw_4_194 rfl rfl ⟨Nat.le_of_ble_eq_true rfl, Nat.le_of_ble_eq_true rfl⟩) (pV hB.1 hK hN mh0 th0 (show shp cA 11 _ _ _ = .inr (11, Fs11 _ _ _) from rfl) rfl) rfl rfl hl.1 rfl (lv_room (Nat.le_of_ble_eq_true rfl)) dX11_hand_12 ⟨Nat.le_of_ble_eq_true rfl, Nat.le_of_ble_eq_true rfl⟩) hLA hA hB hS (by decide) (fun x_5 σ_3 ρ_4 H locs hB fσ_3 pσ_3 hS => ?_)
  subst pσ_3
  refine lv_if_eq (tgt := 26) hx hb dX11_hand_15 (by decide) (fun _ => ?_) (fun c9 => absurd (by decide) c9)
  refine lv_iconst (v := (-1)) hx hb dX11_hand_26 (by decide) ?_
  exact W.iret (v := (-1)) hx hb hr (fun t ht hW => ⟨⟨(-1), (σ_3, ρ_4), rfl, ⟨hB.2.1, hB.2.2, rfl⟩, (show TP D cA L T r σ_3 ρ_4 t.heap from by rw [ht]; exact hB.1)⟩, hS.F ht⟩) hS.2.2 dX11_hand_27
set_option maxHeartbeats 4000000 in
set_option maxRecDepth 100000 in
theorem cz_X11_undo (l : Launch) (D : va_G) (cA : Nat → ClassId) (L : List Nat) (T : Nat → Nat) (r : Rg) (hG : GR L T r) (hL : L.Nodup) (σ : Sg) (ρ : Lg) (hW : WT L rz T σ) (sz : Nat) (h0 : Nat) (mh0 : h0 ∈ L) (th0 : T h0 = 11) (hZ : ZZ L T σ) : Met l yX11_undo (.code yX11_undo cX11_undo 1 (some .int) :: wsA) ({ frames := 1, cells := 0, slots := 0, locals := 21 }) (PR D cA L T r σ ρ sz [.ref h0]) (QI D cA L T r rz ([] : List (Nat × Nat)) σ sz (fun x σ1 => x = (-1))) 0 0 (dm L sz) := by
  refine Met.ofW (cc := cX11_undo) (maxL := 1) (ret := (some .int)) (by decide) rfl ?_
  intro p e s m args below meth c s₁ B hml hv
  obtain ⟨rfl, hsz, hP, hK, hN⟩ := hv
  have hx := B.exec
  have hb := B.bytes
  have hr := B.returns
  have hts : ∀ w ∈ wsA, w.before _ s = true := fun w h => atoms_spec (ws := .code yX11_undo cX11_undo 1 (some .int) :: wsA) B.pre w (List.mem_cons_of_mem _ h)
  have hown : s.vm.findClass RX11 = some m.cls := findClass_of_methodNamed B.named
  subst hsz
  have hLA : LA (dm L s.heap.size) L := ⟨hL, fun a h => Or.inl h⟩
  have hA : ∀ q : Nat, s.heap.size ≤ q → dm L s.heap.size q := fun q h => Or.inr h
  have hS : va_S (dm L s.heap.size) s.heap s.heap [] := va_S.rf
  have hB : TS D cA L T r rz ([] : List (Nat × Nat)) σ σ ρ s.heap := ⟨hP, hW, FR.rf⟩
  have hl := lv_entry ([.ref h0]) (n := 1) (Nat.le_of_ble_eq_true rfl)
  rw [lg_entry_eq]
  generalize (lg_sl ([.ref h0]) ++ List.replicate (1 - (lg_sl ([.ref h0])).length) Slot.unset).toArray = ls at hl ⊢
  have hl : lv_has ls 1 [(0, .ref h0)] := hl
  refine lv_aload_n hx hb dX11_undo_0 rfl (lv_at hl 0 rfl) ?_
  refine t_gr hx hb hts hown hK hG hB mh0 th0 fq_11_5 rfl mw_2_212 dX11_undo_1 (fun b_1 hb_1 mb_1 tb_1 => ?_)
  refine lv_aload_n hx hb dX11_undo_4 rfl (lv_at hl 0 rfl) ?_
  refine t_gr hx hb hts hown hK hG hB mh0 th0 fq_11_3 rfl mw_2_210 dX11_undo_5 (fun b_2 hb_2 mb_2 tb_2 => ?_)
  refine t_gr hx hb hts hown hK hG hB mb_2 tb_2 fq_10_1 rfl mw_1_239 dX11_undo_8 (fun b_3 hb_3 mb_3 tb_3 => ?_)
  refine t_ci (va_runV (As := [.ref b_3]) (rest := []) ⟨hx, hb, hml, hown, hts⟩ (cz_X5_restore l D cA L T r hG hLA.1 σ ρ hB.2.1 _ b_1 mb_1 tb_1 b_3 mb_3 tb_3) (cV hts mv_X5_restore mw_4_203 rfl rfl ⟨Nat.le_of_ble_eq_true rfl, Nat.le_of_ble_eq_true rfl⟩) (pV hB.1 hK hN mb_1 tb_1 (show shp cA 5 _ _ _ = .inr (5, Fs5 _ _ _) from rfl) rfl) rfl rfl hl.1 rfl (lv_room (Nat.le_of_ble_eq_true rfl)) dX11_undo_11 ⟨Nat.le_of_ble_eq_true rfl, Nat.le_of_ble_eq_true rfl⟩) hLA hA hB hS (by decide) (fun x_6 σ_4 ρ_5 H locs hB fσ_4 pσ_4 hS => ?_)
  subst pσ_4
  refine lv_if_eq (tgt := 27) hx hb dX11_undo_14 (by decide) (fun _ => ?_) (fun c9 => absurd (by decide) c9)
  refine lv_iconst (v := (-1)) hx hb dX11_undo_27 (by decide) ?_
  exact W.iret (v := (-1)) hx hb hr (fun t ht hW => ⟨⟨(-1), (σ_4, ρ_5), rfl, ⟨hB.2.1, hB.2.2, rfl⟩, (show TP D cA L T r σ_4 ρ_5 t.heap from by rw [ht]; exact hB.1)⟩, hS.F ht⟩) hS.2.2 dX11_undo_28
set_option maxHeartbeats 4000000 in
set_option maxRecDepth 100000 in
theorem cz_X11_reach (l : Launch) (D : va_G) (cA : Nat → ClassId) (L : List Nat) (T : Nat → Nat) (r : Rg) (hG : GR L T r) (hL : L.Nodup) (σ : Sg) (ρ : Lg) (hW : WT L rz T σ) (sz : Nat) (h0 : Nat) (mh0 : h0 ∈ L) (th0 : T h0 = 11) (p1 : Int32) (p2 : Int32) (hZ : ZZ L T σ) : Met l yX11_reach (.code yX11_reach cX11_reach 4 (some .int) :: wsA) ({ frames := 1, cells := 0, slots := 0, locals := 21 }) (PR D cA L T r σ ρ sz [.ref h0, .int p1, .int p2]) (QI D cA L T r rz ([] : List (Nat × Nat)) σ sz (fun x σ1 => x = (-2))) 0 0 (dm L sz) := by
  refine Met.ofW (cc := cX11_reach) (maxL := 4) (ret := (some .int)) (by decide) rfl ?_
  intro p e s m args below meth c s₁ B hml hv
  obtain ⟨rfl, hsz, hP, hK, hN⟩ := hv
  have hx := B.exec
  have hb := B.bytes
  have hr := B.returns
  have hts : ∀ w ∈ wsA, w.before _ s = true := fun w h => atoms_spec (ws := .code yX11_reach cX11_reach 4 (some .int) :: wsA) B.pre w (List.mem_cons_of_mem _ h)
  have hown : s.vm.findClass RX11 = some m.cls := findClass_of_methodNamed B.named
  subst hsz
  have hLA : LA (dm L s.heap.size) L := ⟨hL, fun a h => Or.inl h⟩
  have hA : ∀ q : Nat, s.heap.size ≤ q → dm L s.heap.size q := fun q h => Or.inr h
  have hS : va_S (dm L s.heap.size) s.heap s.heap [] := va_S.rf
  have hB : TS D cA L T r rz ([] : List (Nat × Nat)) σ σ ρ s.heap := ⟨hP, hW, FR.rf⟩
  have hl := lv_entry ([.ref h0, .int p1, .int p2]) (n := 4) (Nat.le_of_ble_eq_true rfl)
  rw [lg_entry_eq]
  generalize (lg_sl ([.ref h0, .int p1, .int p2]) ++ List.replicate (4 - (lg_sl ([.ref h0, .int p1, .int p2])).length) Slot.unset).toArray = ls at hl ⊢
  have hl : lv_has ls 4 [(0, .ref h0), (1, .int p1), (2, .int p2)] := hl
  refine lv_aload_n hx hb dX11_reach_0 rfl (lv_at hl 0 rfl) ?_
  refine lv_iload_n hx hb dX11_reach_1 rfl (lv_at hl 1 rfl) ?_
  refine t_ci (va_runV (As := [.int p1]) (rest := []) ⟨hx, hb, hml, hown, hts⟩ (cz_X11_isPilgrim l D cA L T r hG hLA.1 σ ρ hB.2.1 _ h0 mh0 th0 p1) (cV hts mv_X11_isPilgrim mw_4_70 rfl rfl ⟨Nat.le_of_ble_eq_true rfl, Nat.le_of_ble_eq_true rfl⟩) (pV hB.1 hK hN mh0 th0 (show shp cA 11 _ _ _ = .inr (11, Fs11 _ _ _) from rfl) rfl) rfl rfl hl.1 rfl (lv_room (Nat.le_of_ble_eq_true rfl)) dX11_reach_2 ⟨Nat.le_of_ble_eq_true rfl, Nat.le_of_ble_eq_true rfl⟩) hLA hA hB hS (by decide) (fun x_3 σ_1 ρ_2 H locs hB fσ_1 pσ_1 hS => ?_)
  subst pσ_1
  refine lv_if_eq (tgt := 16) hx hb dX11_reach_5 (by decide) (fun _ => ?_) (fun c9 => absurd (by decide) c9)
  refine lv_bipush (v := (-2)) hx hb dX11_reach_16 (by decide) ?_
  exact W.iret (v := (-2)) hx hb hr (fun t ht hW => ⟨⟨(-2), (σ_1, ρ_2), rfl, ⟨hB.2.1, hB.2.2, rfl⟩, (show TP D cA L T r σ_1 ρ_2 t.heap from by rw [ht]; exact hB.1)⟩, hS.F ht⟩) hS.2.2 dX11_reach_18
set_option maxHeartbeats 4000000 in
set_option maxRecDepth 100000 in
theorem cz_X11_lacks (l : Launch) (D : va_G) (cA : Nat → ClassId) (L : List Nat) (T : Nat → Nat) (r : Rg) (hG : GR L T r) (hL : L.Nodup) (σ : Sg) (ρ : Lg) (hW : WT L rz T σ) (sz : Nat) (h0 : Nat) (mh0 : h0 ∈ L) (th0 : T h0 = 11) (p1 : Int32) (p2 : Int32) (hZ : ZZ L T σ) : Met l yX11_lacks (.code yX11_lacks cX11_lacks 3 (some .int) :: wsA) ({ frames := 1, cells := 0, slots := 0, locals := 21 }) (PR D cA L T r σ ρ sz [.ref h0, .int p1, .int p2]) (QI D cA L T r rz ([] : List (Nat × Nat)) σ sz (fun x σ1 => x = (-2))) 0 0 (dm L sz) := by
  refine Met.ofW (cc := cX11_lacks) (maxL := 3) (ret := (some .int)) (by decide) rfl ?_
  intro p e s m args below meth c s₁ B hml hv
  obtain ⟨rfl, hsz, hP, hK, hN⟩ := hv
  have hx := B.exec
  have hb := B.bytes
  have hr := B.returns
  have hts : ∀ w ∈ wsA, w.before _ s = true := fun w h => atoms_spec (ws := .code yX11_lacks cX11_lacks 3 (some .int) :: wsA) B.pre w (List.mem_cons_of_mem _ h)
  have hown : s.vm.findClass RX11 = some m.cls := findClass_of_methodNamed B.named
  subst hsz
  have hLA : LA (dm L s.heap.size) L := ⟨hL, fun a h => Or.inl h⟩
  have hA : ∀ q : Nat, s.heap.size ≤ q → dm L s.heap.size q := fun q h => Or.inr h
  have hS : va_S (dm L s.heap.size) s.heap s.heap [] := va_S.rf
  have hB : TS D cA L T r rz ([] : List (Nat × Nat)) σ σ ρ s.heap := ⟨hP, hW, FR.rf⟩
  have hl := lv_entry ([.ref h0, .int p1, .int p2]) (n := 3) (Nat.le_of_ble_eq_true rfl)
  rw [lg_entry_eq]
  generalize (lg_sl ([.ref h0, .int p1, .int p2]) ++ List.replicate (3 - (lg_sl ([.ref h0, .int p1, .int p2])).length) Slot.unset).toArray = ls at hl ⊢
  have hl : lv_has ls 3 [(0, .ref h0), (1, .int p1), (2, .int p2)] := hl
  refine lv_aload_n hx hb dX11_lacks_0 rfl (lv_at hl 0 rfl) ?_
  refine lv_iload_n hx hb dX11_lacks_1 rfl (lv_at hl 1 rfl) ?_
  refine t_ci (va_runV (As := [.int p1]) (rest := []) ⟨hx, hb, hml, hown, hts⟩ (cz_X11_isPilgrim l D cA L T r hG hLA.1 σ ρ hB.2.1 _ h0 mh0 th0 p1) (cV hts mv_X11_isPilgrim mw_4_70 rfl rfl ⟨Nat.le_of_ble_eq_true rfl, Nat.le_of_ble_eq_true rfl⟩) (pV hB.1 hK hN mh0 th0 (show shp cA 11 _ _ _ = .inr (11, Fs11 _ _ _) from rfl) rfl) rfl rfl hl.1 rfl (lv_room (Nat.le_of_ble_eq_true rfl)) dX11_lacks_2 ⟨Nat.le_of_ble_eq_true rfl, Nat.le_of_ble_eq_true rfl⟩) hLA hA hB hS (by decide) (fun x_3 σ_1 ρ_2 H locs hB fσ_1 pσ_1 hS => ?_)
  subst pσ_1
  refine lv_if_eq (tgt := 16) hx hb dX11_lacks_5 (by decide) (fun _ => ?_) (fun c9 => absurd (by decide) c9)
  refine lv_bipush (v := (-2)) hx hb dX11_lacks_16 (by decide) ?_
  exact W.iret (v := (-2)) hx hb hr (fun t ht hW => ⟨⟨(-2), (σ_1, ρ_2), rfl, ⟨hB.2.1, hB.2.2, rfl⟩, (show TP D cA L T r σ_1 ρ_2 t.heap from by rw [ht]; exact hB.1)⟩, hS.F ht⟩) hS.2.2 dX11_lacks_18
set_option maxHeartbeats 4000000 in
set_option maxRecDepth 100000 in
theorem cz_X11_ways (l : Launch) (D : va_G) (cA : Nat → ClassId) (L : List Nat) (T : Nat → Nat) (r : Rg) (hG : GR L T r) (hL : L.Nodup) (σ : Sg) (ρ : Lg) (hW : WT L rz T σ) (sz : Nat) (h0 : Nat) (mh0 : h0 ∈ L) (th0 : T h0 = 11) (p1 : Int32) (hZ : ZZ L T σ) : Met l yX11_ways (.code yX11_ways cX11_ways 2 (some .int) :: wsA) ({ frames := 1, cells := 0, slots := 0, locals := 21 }) (PR D cA L T r σ ρ sz [.ref h0, .int p1]) (QI D cA L T r rz ([] : List (Nat × Nat)) σ sz (fun x σ1 => x = (-1))) 0 0 (dm L sz) := by
  refine Met.ofW (cc := cX11_ways) (maxL := 2) (ret := (some .int)) (by decide) rfl ?_
  intro p e s m args below meth c s₁ B hml hv
  obtain ⟨rfl, hsz, hP, hK, hN⟩ := hv
  have hx := B.exec
  have hb := B.bytes
  have hr := B.returns
  have hts : ∀ w ∈ wsA, w.before _ s = true := fun w h => atoms_spec (ws := .code yX11_ways cX11_ways 2 (some .int) :: wsA) B.pre w (List.mem_cons_of_mem _ h)
  have hown : s.vm.findClass RX11 = some m.cls := findClass_of_methodNamed B.named
  subst hsz
  have hLA : LA (dm L s.heap.size) L := ⟨hL, fun a h => Or.inl h⟩
  have hA : ∀ q : Nat, s.heap.size ≤ q → dm L s.heap.size q := fun q h => Or.inr h
  have hS : va_S (dm L s.heap.size) s.heap s.heap [] := va_S.rf
  have hB : TS D cA L T r rz ([] : List (Nat × Nat)) σ σ ρ s.heap := ⟨hP, hW, FR.rf⟩
  have hl := lv_entry ([.ref h0, .int p1]) (n := 2) (Nat.le_of_ble_eq_true rfl)
  rw [lg_entry_eq]
  generalize (lg_sl ([.ref h0, .int p1]) ++ List.replicate (2 - (lg_sl ([.ref h0, .int p1])).length) Slot.unset).toArray = ls at hl ⊢
  have hl : lv_has ls 2 [(0, .ref h0), (1, .int p1)] := hl
  refine lv_aload_n hx hb dX11_ways_0 rfl (lv_at hl 0 rfl) ?_
  refine lv_iload_n hx hb dX11_ways_1 rfl (lv_at hl 1 rfl) ?_
  refine t_ci (va_runV (As := [.int p1]) (rest := []) ⟨hx, hb, hml, hown, hts⟩ (cz_X11_isPilgrim l D cA L T r hG hLA.1 σ ρ hB.2.1 _ h0 mh0 th0 p1) (cV hts mv_X11_isPilgrim mw_4_70 rfl rfl ⟨Nat.le_of_ble_eq_true rfl, Nat.le_of_ble_eq_true rfl⟩) (pV hB.1 hK hN mh0 th0 (show shp cA 11 _ _ _ = .inr (11, Fs11 _ _ _) from rfl) rfl) rfl rfl hl.1 rfl (lv_room (Nat.le_of_ble_eq_true rfl)) dX11_ways_2 ⟨Nat.le_of_ble_eq_true rfl, Nat.le_of_ble_eq_true rfl⟩) hLA hA hB hS (by decide) (fun x_3 σ_1 ρ_2 H locs hB fσ_1 pσ_1 hS => ?_)
  subst pσ_1
  refine lv_if_eq (tgt := 34) hx hb dX11_ways_5 (by decide) (fun _ => ?_) (fun c9 => absurd (by decide) c9)
  refine lv_iconst (v := (-1)) hx hb dX11_ways_34 (by decide) ?_
  exact W.iret (v := (-1)) hx hb hr (fun t ht hW => ⟨⟨(-1), (σ_1, ρ_2), rfl, ⟨hB.2.1, hB.2.2, rfl⟩, (show TP D cA L T r σ_1 ρ_2 t.heap from by rw [ht]; exact hB.1)⟩, hS.F ht⟩) hS.2.2 dX11_ways_35
set_option maxHeartbeats 4000000 in
set_option maxRecDepth 100000 in
theorem cz_X11_sure (l : Launch) (D : va_G) (cA : Nat → ClassId) (L : List Nat) (T : Nat → Nat) (r : Rg) (hG : GR L T r) (hL : L.Nodup) (σ : Sg) (ρ : Lg) (hW : WT L rz T σ) (sz : Nat) (h0 : Nat) (mh0 : h0 ∈ L) (th0 : T h0 = 11) (p1 : Int32) (p2 : Int32) (hZ : ZZ L T σ) : Met l yX11_sure (.code yX11_sure cX11_sure 3 (some .int) :: wsA) ({ frames := 1, cells := 0, slots := 0, locals := 21 }) (PR D cA L T r σ ρ sz [.ref h0, .int p1, .int p2]) (QI D cA L T r rz ([] : List (Nat × Nat)) σ sz (fun x σ1 => x = (-2))) 0 0 (dm L sz) := by
  refine Met.ofW (cc := cX11_sure) (maxL := 3) (ret := (some .int)) (by decide) rfl ?_
  intro p e s m args below meth c s₁ B hml hv
  obtain ⟨rfl, hsz, hP, hK, hN⟩ := hv
  have hx := B.exec
  have hb := B.bytes
  have hr := B.returns
  have hts : ∀ w ∈ wsA, w.before _ s = true := fun w h => atoms_spec (ws := .code yX11_sure cX11_sure 3 (some .int) :: wsA) B.pre w (List.mem_cons_of_mem _ h)
  have hown : s.vm.findClass RX11 = some m.cls := findClass_of_methodNamed B.named
  subst hsz
  have hLA : LA (dm L s.heap.size) L := ⟨hL, fun a h => Or.inl h⟩
  have hA : ∀ q : Nat, s.heap.size ≤ q → dm L s.heap.size q := fun q h => Or.inr h
  have hS : va_S (dm L s.heap.size) s.heap s.heap [] := va_S.rf
  have hB : TS D cA L T r rz ([] : List (Nat × Nat)) σ σ ρ s.heap := ⟨hP, hW, FR.rf⟩
  have hl := lv_entry ([.ref h0, .int p1, .int p2]) (n := 3) (Nat.le_of_ble_eq_true rfl)
  rw [lg_entry_eq]
  generalize (lg_sl ([.ref h0, .int p1, .int p2]) ++ List.replicate (3 - (lg_sl ([.ref h0, .int p1, .int p2])).length) Slot.unset).toArray = ls at hl ⊢
  have hl : lv_has ls 3 [(0, .ref h0), (1, .int p1), (2, .int p2)] := hl
  refine lv_aload_n hx hb dX11_sure_0 rfl (lv_at hl 0 rfl) ?_
  refine lv_iload_n hx hb dX11_sure_1 rfl (lv_at hl 1 rfl) ?_
  refine t_ci (va_runV (As := [.int p1]) (rest := []) ⟨hx, hb, hml, hown, hts⟩ (cz_X11_isPilgrim l D cA L T r hG hLA.1 σ ρ hB.2.1 _ h0 mh0 th0 p1) (cV hts mv_X11_isPilgrim mw_4_70 rfl rfl ⟨Nat.le_of_ble_eq_true rfl, Nat.le_of_ble_eq_true rfl⟩) (pV hB.1 hK hN mh0 th0 (show shp cA 11 _ _ _ = .inr (11, Fs11 _ _ _) from rfl) rfl) rfl rfl hl.1 rfl (lv_room (Nat.le_of_ble_eq_true rfl)) dX11_sure_2 ⟨Nat.le_of_ble_eq_true rfl, Nat.le_of_ble_eq_true rfl⟩) hLA hA hB hS (by decide) (fun x_3 σ_1 ρ_2 H locs hB fσ_1 pσ_1 hS => ?_)
  subst pσ_1
  refine lv_if_eq (tgt := 16) hx hb dX11_sure_5 (by decide) (fun _ => ?_) (fun c9 => absurd (by decide) c9)
  refine lv_bipush (v := (-2)) hx hb dX11_sure_16 (by decide) ?_
  exact W.iret (v := (-2)) hx hb hr (fun t ht hW => ⟨⟨(-2), (σ_1, ρ_2), rfl, ⟨hB.2.1, hB.2.2, rfl⟩, (show TP D cA L T r σ_1 ρ_2 t.heap from by rw [ht]; exact hB.1)⟩, hS.F ht⟩) hS.2.2 dX11_sure_18
set_option maxHeartbeats 4000000 in
set_option maxRecDepth 100000 in
theorem cz_X11_bag (l : Launch) (D : va_G) (cA : Nat → ClassId) (L : List Nat) (T : Nat → Nat) (r : Rg) (hG : GR L T r) (hL : L.Nodup) (σ : Sg) (ρ : Lg) (hW : WT L rz T σ) (sz : Nat) (h0 : Nat) (mh0 : h0 ∈ L) (th0 : T h0 = 11) (p1 : Int32) (p2 : Int32) (hZ : ZZ L T σ) : Met l yX11_bag (.code yX11_bag cX11_bag 3 (some .int) :: wsA) ({ frames := 1, cells := 0, slots := 0, locals := 21 }) (PR D cA L T r σ ρ sz [.ref h0, .int p1, .int p2]) (QI D cA L T r rz ([] : List (Nat × Nat)) σ sz (fun x σ1 => x = (-3))) 0 0 (dm L sz) := by
  refine Met.ofW (cc := cX11_bag) (maxL := 3) (ret := (some .int)) (by decide) rfl ?_
  intro p e s m args below meth c s₁ B hml hv
  obtain ⟨rfl, hsz, hP, hK, hN⟩ := hv
  have hx := B.exec
  have hb := B.bytes
  have hr := B.returns
  have hts : ∀ w ∈ wsA, w.before _ s = true := fun w h => atoms_spec (ws := .code yX11_bag cX11_bag 3 (some .int) :: wsA) B.pre w (List.mem_cons_of_mem _ h)
  have hown : s.vm.findClass RX11 = some m.cls := findClass_of_methodNamed B.named
  subst hsz
  have hLA : LA (dm L s.heap.size) L := ⟨hL, fun a h => Or.inl h⟩
  have hA : ∀ q : Nat, s.heap.size ≤ q → dm L s.heap.size q := fun q h => Or.inr h
  have hS : va_S (dm L s.heap.size) s.heap s.heap [] := va_S.rf
  have hB : TS D cA L T r rz ([] : List (Nat × Nat)) σ σ ρ s.heap := ⟨hP, hW, FR.rf⟩
  have hl := lv_entry ([.ref h0, .int p1, .int p2]) (n := 3) (Nat.le_of_ble_eq_true rfl)
  rw [lg_entry_eq]
  generalize (lg_sl ([.ref h0, .int p1, .int p2]) ++ List.replicate (3 - (lg_sl ([.ref h0, .int p1, .int p2])).length) Slot.unset).toArray = ls at hl ⊢
  have hl : lv_has ls 3 [(0, .ref h0), (1, .int p1), (2, .int p2)] := hl
  refine lv_aload_n hx hb dX11_bag_0 rfl (lv_at hl 0 rfl) ?_
  refine lv_iload_n hx hb dX11_bag_1 rfl (lv_at hl 1 rfl) ?_
  refine t_ci (va_runV (As := [.int p1]) (rest := []) ⟨hx, hb, hml, hown, hts⟩ (cz_X11_isPilgrim l D cA L T r hG hLA.1 σ ρ hB.2.1 _ h0 mh0 th0 p1) (cV hts mv_X11_isPilgrim mw_4_70 rfl rfl ⟨Nat.le_of_ble_eq_true rfl, Nat.le_of_ble_eq_true rfl⟩) (pV hB.1 hK hN mh0 th0 (show shp cA 11 _ _ _ = .inr (11, Fs11 _ _ _) from rfl) rfl) rfl rfl hl.1 rfl (lv_room (Nat.le_of_ble_eq_true rfl)) dX11_bag_2 ⟨Nat.le_of_ble_eq_true rfl, Nat.le_of_ble_eq_true rfl⟩) hLA hA hB hS (by decide) (fun x_3 σ_1 ρ_2 H locs hB fσ_1 pσ_1 hS => ?_)
  subst pσ_1
  refine lv_if_eq (tgt := 23) hx hb dX11_bag_5 (by decide) (fun _ => ?_) (fun c9 => absurd (by decide) c9)
  refine lv_bipush (v := (-3)) hx hb dX11_bag_23 (by decide) ?_
  exact W.iret (v := (-3)) hx hb hr (fun t ht hW => ⟨⟨(-3), (σ_1, ρ_2), rfl, ⟨hB.2.1, hB.2.2, rfl⟩, (show TP D cA L T r σ_1 ρ_2 t.heap from by rw [ht]; exact hB.1)⟩, hS.F ht⟩) hS.2.2 dX11_bag_25
set_option maxHeartbeats 4000000 in
set_option maxRecDepth 100000 in
theorem cz_X11_both (l : Launch) (D : va_G) (cA : Nat → ClassId) (L : List Nat) (T : Nat → Nat) (r : Rg) (hG : GR L T r) (hL : L.Nodup) (σ : Sg) (ρ : Lg) (hW : WT L rz T σ) (sz : Nat) (h0 : Nat) (mh0 : h0 ∈ L) (th0 : T h0 = 11) (p1 : Int32) (p2 : Int32) (hZ : ZZ L T σ) : Met l yX11_both (.code yX11_both cX11_both 3 (some .int) :: wsA) ({ frames := 2, cells := 0, slots := 0, locals := 43 }) (PR D cA L T r σ ρ sz [.ref h0, .int p1, .int p2]) (QI D cA L T r rz ([] : List (Nat × Nat)) σ sz (fun x σ1 => x = (-1))) 0 0 (dm L sz) := by
  refine Met.ofW (cc := cX11_both) (maxL := 3) (ret := (some .int)) (by decide) rfl ?_
  intro p e s m args below meth c s₁ B hml hv
  obtain ⟨rfl, hsz, hP, hK, hN⟩ := hv
  have hx := B.exec
  have hb := B.bytes
  have hr := B.returns
  have hts : ∀ w ∈ wsA, w.before _ s = true := fun w h => atoms_spec (ws := .code yX11_both cX11_both 3 (some .int) :: wsA) B.pre w (List.mem_cons_of_mem _ h)
  have hown : s.vm.findClass RX11 = some m.cls := findClass_of_methodNamed B.named
  subst hsz
  have hLA : LA (dm L s.heap.size) L := ⟨hL, fun a h => Or.inl h⟩
  have hA : ∀ q : Nat, s.heap.size ≤ q → dm L s.heap.size q := fun q h => Or.inr h
  have hS : va_S (dm L s.heap.size) s.heap s.heap [] := va_S.rf
  have hB : TS D cA L T r rz ([] : List (Nat × Nat)) σ σ ρ s.heap := ⟨hP, hW, FR.rf⟩
  have hl := lv_entry ([.ref h0, .int p1, .int p2]) (n := 3) (Nat.le_of_ble_eq_true rfl)
  rw [lg_entry_eq]
  generalize (lg_sl ([.ref h0, .int p1, .int p2]) ++ List.replicate (3 - (lg_sl ([.ref h0, .int p1, .int p2])).length) Slot.unset).toArray = ls at hl ⊢
  have hl : lv_has ls 3 [(0, .ref h0), (1, .int p1), (2, .int p2)] := hl
  refine lv_aload_n hx hb dX11_both_0 rfl (lv_at hl 0 rfl) ?_
  refine lv_iload_n hx hb dX11_both_1 rfl (lv_at hl 1 rfl) ?_
  refine lv_iload_n hx hb dX11_both_2 rfl (lv_at hl 2 rfl) ?_
  refine t_ci (va_runV (As := [.int p1, .int p2]) (rest := []) ⟨hx, hb, hml, hown, hts⟩ (cz_X11_areTogether l D cA L T r hG hLA.1 σ ρ hB.2.1 _ h0 mh0 th0 p1 p2) (cV hts mv_X11_areTogether mw_4_194 rfl rfl ⟨Nat.le_of_ble_eq_true rfl, Nat.le_of_ble_eq_true rfl⟩) (pV hB.1 hK hN mh0 th0 (show shp cA 11 _ _ _ = .inr (11, Fs11 _ _ _) from rfl) rfl) rfl rfl hl.1 rfl (lv_room (Nat.le_of_ble_eq_true rfl)) dX11_both_3 ⟨Nat.le_of_ble_eq_true rfl, Nat.le_of_ble_eq_true rfl⟩) hLA hA hB hS (by decide) (fun x_3 σ_1 ρ_2 H locs hB fσ_1 pσ_1 hS => ?_)
  subst pσ_1
  refine lv_if_eq (tgt := 35) hx hb dX11_both_6 (by decide) (fun _ => ?_) (fun c9 => absurd (by decide) c9)
  refine lv_iconst (v := (-1)) hx hb dX11_both_35 (by decide) ?_
  exact W.iret (v := (-1)) hx hb hr (fun t ht hW => ⟨⟨(-1), (σ_1, ρ_2), rfl, ⟨hB.2.1, hB.2.2, rfl⟩, (show TP D cA L T r σ_1 ρ_2 t.heap from by rw [ht]; exact hB.1)⟩, hS.F ht⟩) hS.2.2 dX11_both_36
set_option maxHeartbeats 4000000 in
set_option maxRecDepth 100000 in
theorem cz_X11_partner (l : Launch) (D : va_G) (cA : Nat → ClassId) (L : List Nat) (T : Nat → Nat) (r : Rg) (hG : GR L T r) (hL : L.Nodup) (σ : Sg) (ρ : Lg) (hW : WT L rz T σ) (sz : Nat) (h0 : Nat) (mh0 : h0 ∈ L) (th0 : T h0 = 11) (p1 : Int32) (p2 : Int32) (hZ : ZZ L T σ) : Met l yX11_partner (.code yX11_partner cX11_partner 7 (some .int) :: wsA) ({ frames := 1, cells := 0, slots := 0, locals := 21 }) (PR D cA L T r σ ρ sz [.ref h0, .int p1, .int p2]) (QI D cA L T r rz ([] : List (Nat × Nat)) σ sz (fun x σ1 => x = (-1))) 0 0 (dm L sz) := by
  refine Met.ofW (cc := cX11_partner) (maxL := 7) (ret := (some .int)) (by decide) rfl ?_
  intro p e s m args below meth c s₁ B hml hv
  obtain ⟨rfl, hsz, hP, hK, hN⟩ := hv
  have hx := B.exec
  have hb := B.bytes
  have hr := B.returns
  have hts : ∀ w ∈ wsA, w.before _ s = true := fun w h => atoms_spec (ws := .code yX11_partner cX11_partner 7 (some .int) :: wsA) B.pre w (List.mem_cons_of_mem _ h)
  have hown : s.vm.findClass RX11 = some m.cls := findClass_of_methodNamed B.named
  subst hsz
  have hLA : LA (dm L s.heap.size) L := ⟨hL, fun a h => Or.inl h⟩
  have hA : ∀ q : Nat, s.heap.size ≤ q → dm L s.heap.size q := fun q h => Or.inr h
  have hS : va_S (dm L s.heap.size) s.heap s.heap [] := va_S.rf
  have hB : TS D cA L T r rz ([] : List (Nat × Nat)) σ σ ρ s.heap := ⟨hP, hW, FR.rf⟩
  have hl := lv_entry ([.ref h0, .int p1, .int p2]) (n := 7) (Nat.le_of_ble_eq_true rfl)
  rw [lg_entry_eq]
  generalize (lg_sl ([.ref h0, .int p1, .int p2]) ++ List.replicate (7 - (lg_sl ([.ref h0, .int p1, .int p2])).length) Slot.unset).toArray = ls at hl ⊢
  have hl : lv_has ls 7 [(0, .ref h0), (1, .int p1), (2, .int p2)] := hl
  refine lv_aload_n hx hb dX11_partner_0 rfl (lv_at hl 0 rfl) ?_
  refine lv_iload_n hx hb dX11_partner_1 rfl (lv_at hl 1 rfl) ?_
  refine t_ci (va_runV (As := [.int p1]) (rest := []) ⟨hx, hb, hml, hown, hts⟩ (cz_X11_isPilgrim l D cA L T r hG hLA.1 σ ρ hB.2.1 _ h0 mh0 th0 p1) (cV hts mv_X11_isPilgrim mw_4_70 rfl rfl ⟨Nat.le_of_ble_eq_true rfl, Nat.le_of_ble_eq_true rfl⟩) (pV hB.1 hK hN mh0 th0 (show shp cA 11 _ _ _ = .inr (11, Fs11 _ _ _) from rfl) rfl) rfl rfl hl.1 rfl (lv_room (Nat.le_of_ble_eq_true rfl)) dX11_partner_2 ⟨Nat.le_of_ble_eq_true rfl, Nat.le_of_ble_eq_true rfl⟩) hLA hA hB hS (by decide) (fun x_3 σ_1 ρ_2 H locs hB fσ_1 pσ_1 hS => ?_)
  subst pσ_1
  refine lv_if_eq (tgt := 17) hx hb dX11_partner_5 (by decide) (fun _ => ?_) (fun c9 => absurd (by decide) c9)
  refine lv_iconst (v := (-1)) hx hb dX11_partner_17 (by decide) ?_
  exact W.iret (v := (-1)) hx hb hr (fun t ht hW => ⟨⟨(-1), (σ_1, ρ_2), rfl, ⟨hB.2.1, hB.2.2, rfl⟩, (show TP D cA L T r σ_1 ρ_2 t.heap from by rw [ht]; exact hB.1)⟩, hS.F ht⟩) hS.2.2 dX11_partner_18
set_option maxHeartbeats 4000000 in
set_option maxRecDepth 100000 in
theorem cz_X11_downwards (l : Launch) (D : va_G) (cA : Nat → ClassId) (L : List Nat) (T : Nat → Nat) (r : Rg) (hG : GR L T r) (hL : L.Nodup) (σ : Sg) (ρ : Lg) (hW : WT L rz T σ) (sz : Nat) (h0 : Nat) (mh0 : h0 ∈ L) (th0 : T h0 = 11) (p1 : Int32) (p2 : Int32) (hZ : ZZ L T σ) : Met l yX11_downwards (.code yX11_downwards cX11_downwards 3 (some .int) :: wsA) ({ frames := 1, cells := 0, slots := 0, locals := 21 }) (PR D cA L T r σ ρ sz [.ref h0, .int p1, .int p2]) (QI D cA L T r rz ([] : List (Nat × Nat)) σ sz (fun x σ1 => x = (-2))) 0 0 (dm L sz) := by
  refine Met.ofW (cc := cX11_downwards) (maxL := 3) (ret := (some .int)) (by decide) rfl ?_
  intro p e s m args below meth c s₁ B hml hv
  obtain ⟨rfl, hsz, hP, hK, hN⟩ := hv
  have hx := B.exec
  have hb := B.bytes
  have hr := B.returns
  have hts : ∀ w ∈ wsA, w.before _ s = true := fun w h => atoms_spec (ws := .code yX11_downwards cX11_downwards 3 (some .int) :: wsA) B.pre w (List.mem_cons_of_mem _ h)
  have hown : s.vm.findClass RX11 = some m.cls := findClass_of_methodNamed B.named
  subst hsz
  have hLA : LA (dm L s.heap.size) L := ⟨hL, fun a h => Or.inl h⟩
  have hA : ∀ q : Nat, s.heap.size ≤ q → dm L s.heap.size q := fun q h => Or.inr h
  have hS : va_S (dm L s.heap.size) s.heap s.heap [] := va_S.rf
  have hB : TS D cA L T r rz ([] : List (Nat × Nat)) σ σ ρ s.heap := ⟨hP, hW, FR.rf⟩
  have hl := lv_entry ([.ref h0, .int p1, .int p2]) (n := 3) (Nat.le_of_ble_eq_true rfl)
  rw [lg_entry_eq]
  generalize (lg_sl ([.ref h0, .int p1, .int p2]) ++ List.replicate (3 - (lg_sl ([.ref h0, .int p1, .int p2])).length) Slot.unset).toArray = ls at hl ⊢
  have hl : lv_has ls 3 [(0, .ref h0), (1, .int p1), (2, .int p2)] := hl
  refine lv_aload_n hx hb dX11_downwards_0 rfl (lv_at hl 0 rfl) ?_
  refine lv_iload_n hx hb dX11_downwards_1 rfl (lv_at hl 1 rfl) ?_
  refine t_ci (va_runV (As := [.int p1]) (rest := []) ⟨hx, hb, hml, hown, hts⟩ (cz_X11_isPilgrim l D cA L T r hG hLA.1 σ ρ hB.2.1 _ h0 mh0 th0 p1) (cV hts mv_X11_isPilgrim mw_4_70 rfl rfl ⟨Nat.le_of_ble_eq_true rfl, Nat.le_of_ble_eq_true rfl⟩) (pV hB.1 hK hN mh0 th0 (show shp cA 11 _ _ _ = .inr (11, Fs11 _ _ _) from rfl) rfl) rfl rfl hl.1 rfl (lv_room (Nat.le_of_ble_eq_true rfl)) dX11_downwards_2 ⟨Nat.le_of_ble_eq_true rfl, Nat.le_of_ble_eq_true rfl⟩) hLA hA hB hS (by decide) (fun x_3 σ_1 ρ_2 H locs hB fσ_1 pσ_1 hS => ?_)
  subst pσ_1
  refine lv_if_eq (tgt := 16) hx hb dX11_downwards_5 (by decide) (fun _ => ?_) (fun c9 => absurd (by decide) c9)
  refine lv_bipush (v := (-2)) hx hb dX11_downwards_16 (by decide) ?_
  exact W.iret (v := (-2)) hx hb hr (fun t ht hW => ⟨⟨(-2), (σ_1, ρ_2), rfl, ⟨hB.2.1, hB.2.2, rfl⟩, (show TP D cA L T r σ_1 ρ_2 t.heap from by rw [ht]; exact hB.1)⟩, hS.F ht⟩) hS.2.2 dX11_downwards_18
set_option maxHeartbeats 4000000 in
set_option maxRecDepth 100000 in
theorem cz_X11_less (l : Launch) (D : va_G) (cA : Nat → ClassId) (L : List Nat) (T : Nat → Nat) (r : Rg) (hG : GR L T r) (hL : L.Nodup) (σ : Sg) (ρ : Lg) (hW : WT L rz T σ) (sz : Nat) (h0 : Nat) (mh0 : h0 ∈ L) (th0 : T h0 = 11) (p1 : Int32) (p2 : Int32) (hZ : ZZ L T σ) : Met l yX11_less (.code yX11_less cX11_less 7 (some .int) :: wsA) ({ frames := 1, cells := 0, slots := 0, locals := 21 }) (PR D cA L T r σ ρ sz [.ref h0, .int p1, .int p2]) (QI D cA L T r rz ([] : List (Nat × Nat)) σ sz (fun x σ1 => x = (-1))) 0 0 (dm L sz) := by
  refine Met.ofW (cc := cX11_less) (maxL := 7) (ret := (some .int)) (by decide) rfl ?_
  intro p e s m args below meth c s₁ B hml hv
  obtain ⟨rfl, hsz, hP, hK, hN⟩ := hv
  have hx := B.exec
  have hb := B.bytes
  have hr := B.returns
  have hts : ∀ w ∈ wsA, w.before _ s = true := fun w h => atoms_spec (ws := .code yX11_less cX11_less 7 (some .int) :: wsA) B.pre w (List.mem_cons_of_mem _ h)
  have hown : s.vm.findClass RX11 = some m.cls := findClass_of_methodNamed B.named
  subst hsz
  have hLA : LA (dm L s.heap.size) L := ⟨hL, fun a h => Or.inl h⟩
  have hA : ∀ q : Nat, s.heap.size ≤ q → dm L s.heap.size q := fun q h => Or.inr h
  have hS : va_S (dm L s.heap.size) s.heap s.heap [] := va_S.rf
  have hB : TS D cA L T r rz ([] : List (Nat × Nat)) σ σ ρ s.heap := ⟨hP, hW, FR.rf⟩
  have hl := lv_entry ([.ref h0, .int p1, .int p2]) (n := 7) (Nat.le_of_ble_eq_true rfl)
  rw [lg_entry_eq]
  generalize (lg_sl ([.ref h0, .int p1, .int p2]) ++ List.replicate (7 - (lg_sl ([.ref h0, .int p1, .int p2])).length) Slot.unset).toArray = ls at hl ⊢
  have hl : lv_has ls 7 [(0, .ref h0), (1, .int p1), (2, .int p2)] := hl
  refine lv_aload_n hx hb dX11_less_0 rfl (lv_at hl 0 rfl) ?_
  refine lv_iload_n hx hb dX11_less_1 rfl (lv_at hl 1 rfl) ?_
  refine t_ci (va_runV (As := [.int p1]) (rest := []) ⟨hx, hb, hml, hown, hts⟩ (cz_X11_isPilgrim l D cA L T r hG hLA.1 σ ρ hB.2.1 _ h0 mh0 th0 p1) (cV hts mv_X11_isPilgrim mw_4_70 rfl rfl ⟨Nat.le_of_ble_eq_true rfl, Nat.le_of_ble_eq_true rfl⟩) (pV hB.1 hK hN mh0 th0 (show shp cA 11 _ _ _ = .inr (11, Fs11 _ _ _) from rfl) rfl) rfl rfl hl.1 rfl (lv_room (Nat.le_of_ble_eq_true rfl)) dX11_less_2 ⟨Nat.le_of_ble_eq_true rfl, Nat.le_of_ble_eq_true rfl⟩) hLA hA hB hS (by decide) (fun x_3 σ_1 ρ_2 H locs hB fσ_1 pσ_1 hS => ?_)
  subst pσ_1
  refine lv_if_eq (tgt := 17) hx hb dX11_less_5 (by decide) (fun _ => ?_) (fun c9 => absurd (by decide) c9)
  refine lv_iconst (v := (-1)) hx hb dX11_less_17 (by decide) ?_
  exact W.iret (v := (-1)) hx hb hr (fun t ht hW => ⟨⟨(-1), (σ_1, ρ_2), rfl, ⟨hB.2.1, hB.2.2, rfl⟩, (show TP D cA L T r σ_1 ρ_2 t.heap from by rw [ht]; exact hB.1)⟩, hS.F ht⟩) hS.2.2 dX11_less_18
set_option maxHeartbeats 4000000 in
set_option maxRecDepth 100000 in
theorem cz_X11_rich (l : Launch) (D : va_G) (cA : Nat → ClassId) (L : List Nat) (T : Nat → Nat) (r : Rg) (hG : GR L T r) (hL : L.Nodup) (σ : Sg) (ρ : Lg) (hW : WT L rz T σ) (sz : Nat) (h0 : Nat) (mh0 : h0 ∈ L) (th0 : T h0 = 11) (p1 : Int32) (hZ : ZZ L T σ) : Met l yX11_rich (.code yX11_rich cX11_rich 6 (some .int) :: wsA) ({ frames := 0, cells := 0, slots := 0, locals := 0 }) (PR D cA L T r σ ρ sz [.ref h0, .int p1]) (QI D cA L T r rz ([] : List (Nat × Nat)) σ sz (fun x σ1 => x = (-1))) 0 0 (dm L sz) := by
  refine Met.ofW (cc := cX11_rich) (maxL := 6) (ret := (some .int)) (by decide) rfl ?_
  intro p e s m args below meth c s₁ B hml hv
  obtain ⟨rfl, hsz, hP, hK, hN⟩ := hv
  have hx := B.exec
  have hb := B.bytes
  have hr := B.returns
  have hts : ∀ w ∈ wsA, w.before _ s = true := fun w h => atoms_spec (ws := .code yX11_rich cX11_rich 6 (some .int) :: wsA) B.pre w (List.mem_cons_of_mem _ h)
  have hown : s.vm.findClass RX11 = some m.cls := findClass_of_methodNamed B.named
  subst hsz
  have hLA : LA (dm L s.heap.size) L := ⟨hL, fun a h => Or.inl h⟩
  have hA : ∀ q : Nat, s.heap.size ≤ q → dm L s.heap.size q := fun q h => Or.inr h
  have hS : va_S (dm L s.heap.size) s.heap s.heap [] := va_S.rf
  have hB : TS D cA L T r rz ([] : List (Nat × Nat)) σ σ ρ s.heap := ⟨hP, hW, FR.rf⟩
  have hl := lv_entry ([.ref h0, .int p1]) (n := 6) (Nat.le_of_ble_eq_true rfl)
  rw [lg_entry_eq]
  generalize (lg_sl ([.ref h0, .int p1]) ++ List.replicate (6 - (lg_sl ([.ref h0, .int p1])).length) Slot.unset).toArray = ls at hl ⊢
  have hl : lv_has ls 6 [(0, .ref h0), (1, .int p1)] := hl
  refine lv_aload_n hx hb dX11_rich_0 rfl (lv_at hl 0 rfl) ?_
  refine t_gr hx hb hts hown hK hG hB mh0 th0 fq_11_3 rfl mw_2_210 dX11_rich_1 (fun b_1 hb_1 mb_1 tb_1 => ?_)
  refine t_gr hx hb hts hown hK hG hB mb_1 tb_1 fq_10_0 rfl mw_1_236 dX11_rich_4 (fun b_2 hb_2 mb_2 tb_2 => ?_)
  refine t_gv hx hb hts hown hK hB mb_2 tb_2 fi_3_6 (hZ.at (j := 6) mb_2 tb_2 (by decide : ini 3 6 = 0)) mw_1_164 dX11_rich_7 ?_
  refine lv_if_eq (tgt := 22) hx hb dX11_rich_10 (by decide) (fun _ => ?_) (fun c9 => absurd (by decide) c9)
  refine lv_iconst (v := (-1)) hx hb dX11_rich_22 (by decide) ?_
  exact W.iret (v := (-1)) hx hb hr (fun t ht hW => ⟨⟨(-1), (σ, ρ), rfl, ⟨hB.2.1, hB.2.2, rfl⟩, (show TP D cA L T r σ ρ t.heap from by rw [ht]; exact hB.1)⟩, hS.F ht⟩) hS.2.2 dX11_rich_23
set_option maxHeartbeats 4000000 in
set_option maxRecDepth 100000 in
theorem cz_X11_leaves (l : Launch) (D : va_G) (cA : Nat → ClassId) (L : List Nat) (T : Nat → Nat) (r : Rg) (hG : GR L T r) (hL : L.Nodup) (σ : Sg) (ρ : Lg) (hW : WT L rz T σ) (sz : Nat) (h0 : Nat) (mh0 : h0 ∈ L) (th0 : T h0 = 11) (p1 : Int32) (p2 : Int32) (hZ : ZZ L T σ) : Met l yX11_leaves (.code yX11_leaves cX11_leaves 4 (some .int) :: wsA) ({ frames := 1, cells := 0, slots := 0, locals := 21 }) (PR D cA L T r σ ρ sz [.ref h0, .int p1, .int p2]) (QI D cA L T r rz ([] : List (Nat × Nat)) σ sz (fun x σ1 => x = (-1))) 0 0 (dm L sz) := by
  refine Met.ofW (cc := cX11_leaves) (maxL := 4) (ret := (some .int)) (by decide) rfl ?_
  intro p e s m args below meth c s₁ B hml hv
  obtain ⟨rfl, hsz, hP, hK, hN⟩ := hv
  have hx := B.exec
  have hb := B.bytes
  have hr := B.returns
  have hts : ∀ w ∈ wsA, w.before _ s = true := fun w h => atoms_spec (ws := .code yX11_leaves cX11_leaves 4 (some .int) :: wsA) B.pre w (List.mem_cons_of_mem _ h)
  have hown : s.vm.findClass RX11 = some m.cls := findClass_of_methodNamed B.named
  subst hsz
  have hLA : LA (dm L s.heap.size) L := ⟨hL, fun a h => Or.inl h⟩
  have hA : ∀ q : Nat, s.heap.size ≤ q → dm L s.heap.size q := fun q h => Or.inr h
  have hS : va_S (dm L s.heap.size) s.heap s.heap [] := va_S.rf
  have hB : TS D cA L T r rz ([] : List (Nat × Nat)) σ σ ρ s.heap := ⟨hP, hW, FR.rf⟩
  have hl := lv_entry ([.ref h0, .int p1, .int p2]) (n := 4) (Nat.le_of_ble_eq_true rfl)
  rw [lg_entry_eq]
  generalize (lg_sl ([.ref h0, .int p1, .int p2]) ++ List.replicate (4 - (lg_sl ([.ref h0, .int p1, .int p2])).length) Slot.unset).toArray = ls at hl ⊢
  have hl : lv_has ls 4 [(0, .ref h0), (1, .int p1), (2, .int p2)] := hl
  refine lv_aload_n hx hb dX11_leaves_0 rfl (lv_at hl 0 rfl) ?_
  refine lv_iload_n hx hb dX11_leaves_1 rfl (lv_at hl 1 rfl) ?_
  refine t_ci (va_runV (As := [.int p1]) (rest := []) ⟨hx, hb, hml, hown, hts⟩ (cz_X11_isSort l D cA L T r hG hLA.1 σ ρ hB.2.1 _ h0 mh0 th0 p1) (cV hts mv_X11_isSort mw_4_91 rfl rfl ⟨Nat.le_of_ble_eq_true rfl, Nat.le_of_ble_eq_true rfl⟩) (pV hB.1 hK hN mh0 th0 (show shp cA 11 _ _ _ = .inr (11, Fs11 _ _ _) from rfl) rfl) rfl rfl hl.1 rfl (lv_room (Nat.le_of_ble_eq_true rfl)) dX11_leaves_2 ⟨Nat.le_of_ble_eq_true rfl, Nat.le_of_ble_eq_true rfl⟩) hLA hA hB hS (by decide) (fun x_3 σ_1 ρ_2 H locs hB fσ_1 pσ_1 hS => ?_)
  subst pσ_1
  refine lv_if_eq (tgt := 18) hx hb dX11_leaves_5 (by decide) (fun _ => ?_) (fun c9 => absurd (by decide) c9)
  refine lv_iconst (v := (-1)) hx hb dX11_leaves_18 (by decide) ?_
  exact W.iret (v := (-1)) hx hb hr (fun t ht hW => ⟨⟨(-1), (σ_1, ρ_2), rfl, ⟨hB.2.1, hB.2.2, rfl⟩, (show TP D cA L T r σ_1 ρ_2 t.heap from by rw [ht]; exact hB.1)⟩, hS.F ht⟩) hS.2.2 dX11_leaves_19
set_option maxHeartbeats 4000000 in
set_option maxRecDepth 100000 in
theorem cz_X11_gifts (l : Launch) (D : va_G) (cA : Nat → ClassId) (L : List Nat) (T : Nat → Nat) (r : Rg) (hG : GR L T r) (hL : L.Nodup) (σ : Sg) (ρ : Lg) (hW : WT L rz T σ) (sz : Nat) (h0 : Nat) (mh0 : h0 ∈ L) (th0 : T h0 = 11) (p1 : Int32) (hZ : ZZ L T σ) : Met l yX11_gifts (.code yX11_gifts cX11_gifts 5 (some .int) :: wsA) ({ frames := 0, cells := 0, slots := 0, locals := 0 }) (PR D cA L T r σ ρ sz [.ref h0, .int p1]) (QI D cA L T r rz ([] : List (Nat × Nat)) σ sz (fun x σ1 => x = (-3))) 0 0 (dm L sz) := by
  refine Met.ofW (cc := cX11_gifts) (maxL := 5) (ret := (some .int)) (by decide) rfl ?_
  intro p e s m args below meth c s₁ B hml hv
  obtain ⟨rfl, hsz, hP, hK, hN⟩ := hv
  have hx := B.exec
  have hb := B.bytes
  have hr := B.returns
  have hts : ∀ w ∈ wsA, w.before _ s = true := fun w h => atoms_spec (ws := .code yX11_gifts cX11_gifts 5 (some .int) :: wsA) B.pre w (List.mem_cons_of_mem _ h)
  have hown : s.vm.findClass RX11 = some m.cls := findClass_of_methodNamed B.named
  subst hsz
  have hLA : LA (dm L s.heap.size) L := ⟨hL, fun a h => Or.inl h⟩
  have hA : ∀ q : Nat, s.heap.size ≤ q → dm L s.heap.size q := fun q h => Or.inr h
  have hS : va_S (dm L s.heap.size) s.heap s.heap [] := va_S.rf
  have hB : TS D cA L T r rz ([] : List (Nat × Nat)) σ σ ρ s.heap := ⟨hP, hW, FR.rf⟩
  have hl := lv_entry ([.ref h0, .int p1]) (n := 5) (Nat.le_of_ble_eq_true rfl)
  rw [lg_entry_eq]
  generalize (lg_sl ([.ref h0, .int p1]) ++ List.replicate (5 - (lg_sl ([.ref h0, .int p1])).length) Slot.unset).toArray = ls at hl ⊢
  have hl : lv_has ls 5 [(0, .ref h0), (1, .int p1)] := hl
  refine lv_iload_n hx hb dX11_gifts_0 rfl (lv_at hl 1 rfl) ?_
  refine lv_if_lt (tgt := 14) hx hb dX11_gifts_1 (by decide) (fun c_1 => ?_) (fun c_1 => ?_)
  · skip
    have uc_1 := i_lt (n := 0) (by decide) c_1
    refine lv_iconst (v := 0) hx hb dX11_gifts_14 (by decide) ?_
    refine lv_istore_n (lv' := [(2, .int 0), (0, .ref h0), (1, .int p1)]) hx hb dX11_gifts_15 rfl hl (by decide) rfl (fun ls hl => ?_)
    refine lv_iload_n hx hb dX11_gifts_16 rfl (lv_at hl 2 rfl) ?_
    refine lv_bipush (v := 10) hx hb dX11_gifts_17 (by decide) ?_
    refine lv_icmp_lt (tgt := 32) hx hb dX11_gifts_19 (by decide) (fun c_2 => ?_) (fun c_2 => ?_)
    · skip
      have uc_2 := i_lt (n := 10) (by decide) c_2
      refine lv_iconst (v := 0) hx hb dX11_gifts_32 (by decide) ?_
      refine lv_istore_n (lv' := [(3, .int 0), (2, .int 0), (0, .ref h0), (1, .int p1)]) hx hb dX11_gifts_33 rfl hl (by decide) rfl (fun ls hl => ?_)
      refine lv_aload_n hx hb dX11_gifts_34 rfl (lv_at hl 2 rfl) ?_
      refine t_gr hx hb hts hown hK hG hB mh0 th0 fq_11_3 rfl mw_2_210 dX11_gifts_35 (fun b_3 hb_3 mb_3 tb_3 => ?_)
      refine t_gr hx hb hts hown hK hG hB mb_3 tb_3 fq_10_0 rfl mw_1_236 dX11_gifts_38 (fun b_4 hb_4 mb_4 tb_4 => ?_)
      refine t_gv hx hb hts hown hK hB mb_4 tb_4 fi_3_6 (hZ.at (j := 6) mb_4 tb_4 (by decide : ini 3 6 = 0)) mw_1_164 dX11_gifts_41 ?_
      refine lv_if_eq (tgt := 60) hx hb dX11_gifts_44 (by decide) (fun _ => ?_) (fun c9 => absurd (by decide) c9)
      refine lv_bipush (v := (-3)) hx hb dX11_gifts_60 (by decide) ?_
      exact W.iret (v := (-3)) hx hb hr (fun t ht hW => ⟨⟨(-3), (σ, ρ), rfl, ⟨hB.2.1, hB.2.2, rfl⟩, (show TP D cA L T r σ ρ t.heap from by rw [ht]; exact hB.1)⟩, hS.F ht⟩) hS.2.2 dX11_gifts_62
    · skip
      have uc_2 := i_nlt (n := 10) (by decide) c_2
      exfalso; omega
  · skip
    have uc_1 := i_nlt (n := 0) (by decide) c_1
    refine lv_iload_n hx hb dX11_gifts_4 rfl (lv_at hl 1 rfl) ?_
    refine lv_bipush (v := 8) hx hb dX11_gifts_5 (by decide) ?_
    refine lv_icmp_ge (tgt := 14) hx hb dX11_gifts_7 (by decide) (fun c_5 => ?_) (fun c_5 => ?_)
    · skip
      have uc_5 := i_ge (n := 8) (by decide) c_5
      refine lv_iconst (v := 0) hx hb dX11_gifts_14 (by decide) ?_
      refine lv_istore_n (lv' := [(2, .int 0), (0, .ref h0), (1, .int p1)]) hx hb dX11_gifts_15 rfl hl (by decide) rfl (fun ls hl => ?_)
      refine lv_iload_n hx hb dX11_gifts_16 rfl (lv_at hl 2 rfl) ?_
      refine lv_bipush (v := 10) hx hb dX11_gifts_17 (by decide) ?_
      refine lv_icmp_lt (tgt := 32) hx hb dX11_gifts_19 (by decide) (fun c_6 => ?_) (fun c_6 => ?_)
      · skip
        have uc_6 := i_lt (n := 10) (by decide) c_6
        refine lv_iconst (v := 0) hx hb dX11_gifts_32 (by decide) ?_
        refine lv_istore_n (lv' := [(3, .int 0), (2, .int 0), (0, .ref h0), (1, .int p1)]) hx hb dX11_gifts_33 rfl hl (by decide) rfl (fun ls hl => ?_)
        refine lv_aload_n hx hb dX11_gifts_34 rfl (lv_at hl 2 rfl) ?_
        refine t_gr hx hb hts hown hK hG hB mh0 th0 fq_11_3 rfl mw_2_210 dX11_gifts_35 (fun b_7 hb_7 mb_7 tb_7 => ?_)
        refine t_gr hx hb hts hown hK hG hB mb_7 tb_7 fq_10_0 rfl mw_1_236 dX11_gifts_38 (fun b_8 hb_8 mb_8 tb_8 => ?_)
        refine t_gv hx hb hts hown hK hB mb_8 tb_8 fi_3_6 (hZ.at (j := 6) mb_8 tb_8 (by decide : ini 3 6 = 0)) mw_1_164 dX11_gifts_41 ?_
        refine lv_if_eq (tgt := 60) hx hb dX11_gifts_44 (by decide) (fun _ => ?_) (fun c9 => absurd (by decide) c9)
        refine lv_bipush (v := (-3)) hx hb dX11_gifts_60 (by decide) ?_
        exact W.iret (v := (-3)) hx hb hr (fun t ht hW => ⟨⟨(-3), (σ, ρ), rfl, ⟨hB.2.1, hB.2.2, rfl⟩, (show TP D cA L T r σ ρ t.heap from by rw [ht]; exact hB.1)⟩, hS.F ht⟩) hS.2.2 dX11_gifts_62
      · skip
        have uc_6 := i_nlt (n := 10) (by decide) c_6
        refine lv_iload_n hx hb dX11_gifts_22 rfl (lv_at hl 2 rfl) ?_
        refine lv_bipush (v := 18) hx hb dX11_gifts_23 (by decide) ?_
        refine lv_icmp_ge (tgt := 32) hx hb dX11_gifts_25 (by decide) (fun c_9 => ?_) (fun c_9 => ?_)
        · skip
          have uc_9 := i_ge (n := 18) (by decide) c_9
          refine lv_iconst (v := 0) hx hb dX11_gifts_32 (by decide) ?_
          refine lv_istore_n (lv' := [(3, .int 0), (2, .int 0), (0, .ref h0), (1, .int p1)]) hx hb dX11_gifts_33 rfl hl (by decide) rfl (fun ls hl => ?_)
          refine lv_aload_n hx hb dX11_gifts_34 rfl (lv_at hl 2 rfl) ?_
          refine t_gr hx hb hts hown hK hG hB mh0 th0 fq_11_3 rfl mw_2_210 dX11_gifts_35 (fun b_10 hb_10 mb_10 tb_10 => ?_)
          refine t_gr hx hb hts hown hK hG hB mb_10 tb_10 fq_10_0 rfl mw_1_236 dX11_gifts_38 (fun b_11 hb_11 mb_11 tb_11 => ?_)
          refine t_gv hx hb hts hown hK hB mb_11 tb_11 fi_3_6 (hZ.at (j := 6) mb_11 tb_11 (by decide : ini 3 6 = 0)) mw_1_164 dX11_gifts_41 ?_
          refine lv_if_eq (tgt := 60) hx hb dX11_gifts_44 (by decide) (fun _ => ?_) (fun c9 => absurd (by decide) c9)
          refine lv_bipush (v := (-3)) hx hb dX11_gifts_60 (by decide) ?_
          exact W.iret (v := (-3)) hx hb hr (fun t ht hW => ⟨⟨(-3), (σ, ρ), rfl, ⟨hB.2.1, hB.2.2, rfl⟩, (show TP D cA L T r σ ρ t.heap from by rw [ht]; exact hB.1)⟩, hS.F ht⟩) hS.2.2 dX11_gifts_62
        · skip
          have uc_9 := i_nge (n := 18) (by decide) c_9
          refine lv_iconst (v := 1) hx hb dX11_gifts_28 (by decide) ?_
          refine lv_goto (tgt := 33) hx hb dX11_gifts_29 (by decide) ?_
          refine lv_istore_n (lv' := [(3, .int 1), (2, .int 0), (0, .ref h0), (1, .int p1)]) hx hb dX11_gifts_33 rfl hl (by decide) rfl (fun ls hl => ?_)
          refine lv_aload_n hx hb dX11_gifts_34 rfl (lv_at hl 2 rfl) ?_
          refine t_gr hx hb hts hown hK hG hB mh0 th0 fq_11_3 rfl mw_2_210 dX11_gifts_35 (fun b_12 hb_12 mb_12 tb_12 => ?_)
          refine t_gr hx hb hts hown hK hG hB mb_12 tb_12 fq_10_0 rfl mw_1_236 dX11_gifts_38 (fun b_13 hb_13 mb_13 tb_13 => ?_)
          refine t_gv hx hb hts hown hK hB mb_13 tb_13 fi_3_6 (hZ.at (j := 6) mb_13 tb_13 (by decide : ini 3 6 = 0)) mw_1_164 dX11_gifts_41 ?_
          refine lv_if_eq (tgt := 60) hx hb dX11_gifts_44 (by decide) (fun _ => ?_) (fun c9 => absurd (by decide) c9)
          refine lv_bipush (v := (-3)) hx hb dX11_gifts_60 (by decide) ?_
          exact W.iret (v := (-3)) hx hb hr (fun t ht hW => ⟨⟨(-3), (σ, ρ), rfl, ⟨hB.2.1, hB.2.2, rfl⟩, (show TP D cA L T r σ ρ t.heap from by rw [ht]; exact hB.1)⟩, hS.F ht⟩) hS.2.2 dX11_gifts_62
    · skip
      have uc_5 := i_nge (n := 8) (by decide) c_5
      refine lv_iconst (v := 1) hx hb dX11_gifts_10 (by decide) ?_
      refine lv_goto (tgt := 15) hx hb dX11_gifts_11 (by decide) ?_
      refine lv_istore_n (lv' := [(2, .int 1), (0, .ref h0), (1, .int p1)]) hx hb dX11_gifts_15 rfl hl (by decide) rfl (fun ls hl => ?_)
      refine lv_iload_n hx hb dX11_gifts_16 rfl (lv_at hl 2 rfl) ?_
      refine lv_bipush (v := 10) hx hb dX11_gifts_17 (by decide) ?_
      refine lv_icmp_lt (tgt := 32) hx hb dX11_gifts_19 (by decide) (fun c_14 => ?_) (fun c_14 => ?_)
      · skip
        have uc_14 := i_lt (n := 10) (by decide) c_14
        refine lv_iconst (v := 0) hx hb dX11_gifts_32 (by decide) ?_
        refine lv_istore_n (lv' := [(3, .int 0), (2, .int 1), (0, .ref h0), (1, .int p1)]) hx hb dX11_gifts_33 rfl hl (by decide) rfl (fun ls hl => ?_)
        refine lv_aload_n hx hb dX11_gifts_34 rfl (lv_at hl 2 rfl) ?_
        refine t_gr hx hb hts hown hK hG hB mh0 th0 fq_11_3 rfl mw_2_210 dX11_gifts_35 (fun b_15 hb_15 mb_15 tb_15 => ?_)
        refine t_gr hx hb hts hown hK hG hB mb_15 tb_15 fq_10_0 rfl mw_1_236 dX11_gifts_38 (fun b_16 hb_16 mb_16 tb_16 => ?_)
        refine t_gv hx hb hts hown hK hB mb_16 tb_16 fi_3_6 (hZ.at (j := 6) mb_16 tb_16 (by decide : ini 3 6 = 0)) mw_1_164 dX11_gifts_41 ?_
        refine lv_if_eq (tgt := 60) hx hb dX11_gifts_44 (by decide) (fun _ => ?_) (fun c9 => absurd (by decide) c9)
        refine lv_bipush (v := (-3)) hx hb dX11_gifts_60 (by decide) ?_
        exact W.iret (v := (-3)) hx hb hr (fun t ht hW => ⟨⟨(-3), (σ, ρ), rfl, ⟨hB.2.1, hB.2.2, rfl⟩, (show TP D cA L T r σ ρ t.heap from by rw [ht]; exact hB.1)⟩, hS.F ht⟩) hS.2.2 dX11_gifts_62
      · skip
        have uc_14 := i_nlt (n := 10) (by decide) c_14
        exfalso; omega
set_option maxHeartbeats 4000000 in
set_option maxRecDepth 100000 in
theorem cz_X11_ruled (l : Launch) (D : va_G) (cA : Nat → ClassId) (L : List Nat) (T : Nat → Nat) (r : Rg) (hG : GR L T r) (hL : L.Nodup) (σ : Sg) (ρ : Lg) (hW : WT L rz T σ) (sz : Nat) (h0 : Nat) (mh0 : h0 ∈ L) (th0 : T h0 = 11) (p1 : Int32) (hZ : ZZ L T σ) : Met l yX11_ruled (.code yX11_ruled cX11_ruled 4 (some .int) :: wsA) ({ frames := 0, cells := 0, slots := 0, locals := 0 }) (PR D cA L T r σ ρ sz [.ref h0, .int p1]) (QI D cA L T r rz ([] : List (Nat × Nat)) σ sz (fun x σ1 => x = (-3))) 0 0 (dm L sz) := by
  refine Met.ofW (cc := cX11_ruled) (maxL := 4) (ret := (some .int)) (by decide) rfl ?_
  intro p e s m args below meth c s₁ B hml hv
  obtain ⟨rfl, hsz, hP, hK, hN⟩ := hv
  have hx := B.exec
  have hb := B.bytes
  have hr := B.returns
  have hts : ∀ w ∈ wsA, w.before _ s = true := fun w h => atoms_spec (ws := .code yX11_ruled cX11_ruled 4 (some .int) :: wsA) B.pre w (List.mem_cons_of_mem _ h)
  have hown : s.vm.findClass RX11 = some m.cls := findClass_of_methodNamed B.named
  subst hsz
  have hLA : LA (dm L s.heap.size) L := ⟨hL, fun a h => Or.inl h⟩
  have hA : ∀ q : Nat, s.heap.size ≤ q → dm L s.heap.size q := fun q h => Or.inr h
  have hS : va_S (dm L s.heap.size) s.heap s.heap [] := va_S.rf
  have hB : TS D cA L T r rz ([] : List (Nat × Nat)) σ σ ρ s.heap := ⟨hP, hW, FR.rf⟩
  have hl := lv_entry ([.ref h0, .int p1]) (n := 4) (Nat.le_of_ble_eq_true rfl)
  rw [lg_entry_eq]
  generalize (lg_sl ([.ref h0, .int p1]) ++ List.replicate (4 - (lg_sl ([.ref h0, .int p1])).length) Slot.unset).toArray = ls at hl ⊢
  have hl : lv_has ls 4 [(0, .ref h0), (1, .int p1)] := hl
  refine lv_aload_n hx hb dX11_ruled_0 rfl (lv_at hl 0 rfl) ?_
  refine t_gr hx hb hts hown hK hG hB mh0 th0 fq_11_3 rfl mw_2_210 dX11_ruled_1 (fun b_1 hb_1 mb_1 tb_1 => ?_)
  refine t_gr hx hb hts hown hK hG hB mb_1 tb_1 fq_10_0 rfl mw_1_236 dX11_ruled_4 (fun b_2 hb_2 mb_2 tb_2 => ?_)
  refine t_gv hx hb hts hown hK hB mb_2 tb_2 fi_3_6 (hZ.at (j := 6) mb_2 tb_2 (by decide : ini 3 6 = 0)) mw_1_164 dX11_ruled_7 ?_
  refine lv_if_eq (tgt := 22) hx hb dX11_ruled_10 (by decide) (fun _ => ?_) (fun c9 => absurd (by decide) c9)
  refine lv_bipush (v := (-3)) hx hb dX11_ruled_22 (by decide) ?_
  exact W.iret (v := (-3)) hx hb hr (fun t ht hW => ⟨⟨(-3), (σ, ρ), rfl, ⟨hB.2.1, hB.2.2, rfl⟩, (show TP D cA L T r σ ρ t.heap from by rw [ht]; exact hB.1)⟩, hS.F ht⟩) hS.2.2 dX11_ruled_24
set_option maxHeartbeats 4000000 in
set_option maxRecDepth 100000 in
theorem cz_X11_look (l : Launch) (D : va_G) (cA : Nat → ClassId) (L : List Nat) (T : Nat → Nat) (r : Rg) (hG : GR L T r) (hL : L.Nodup) (σ : Sg) (ρ : Lg) (hW : WT L rz T σ) (sz : Nat) (h0 : Nat) (mh0 : h0 ∈ L) (th0 : T h0 = 11) (p1 : Int32) (p2 : Int32) (hZ : ZZ L T σ) : Met l yX11_look (.code yX11_look cX11_look 8 (some .int) :: wsA) ({ frames := 0, cells := 0, slots := 0, locals := 0 }) (PR D cA L T r σ ρ sz [.ref h0, .int p1, .int p2]) (QI D cA L T r rz ([] : List (Nat × Nat)) σ sz (fun x σ1 => x = (-1))) 0 0 (dm L sz) := by
  refine Met.ofW (cc := cX11_look) (maxL := 8) (ret := (some .int)) (by decide) rfl ?_
  intro p e s m args below meth c s₁ B hml hv
  obtain ⟨rfl, hsz, hP, hK, hN⟩ := hv
  have hx := B.exec
  have hb := B.bytes
  have hr := B.returns
  have hts : ∀ w ∈ wsA, w.before _ s = true := fun w h => atoms_spec (ws := .code yX11_look cX11_look 8 (some .int) :: wsA) B.pre w (List.mem_cons_of_mem _ h)
  have hown : s.vm.findClass RX11 = some m.cls := findClass_of_methodNamed B.named
  subst hsz
  have hLA : LA (dm L s.heap.size) L := ⟨hL, fun a h => Or.inl h⟩
  have hA : ∀ q : Nat, s.heap.size ≤ q → dm L s.heap.size q := fun q h => Or.inr h
  have hS : va_S (dm L s.heap.size) s.heap s.heap [] := va_S.rf
  have hB : TS D cA L T r rz ([] : List (Nat × Nat)) σ σ ρ s.heap := ⟨hP, hW, FR.rf⟩
  have hl := lv_entry ([.ref h0, .int p1, .int p2]) (n := 8) (Nat.le_of_ble_eq_true rfl)
  rw [lg_entry_eq]
  generalize (lg_sl ([.ref h0, .int p1, .int p2]) ++ List.replicate (8 - (lg_sl ([.ref h0, .int p1, .int p2])).length) Slot.unset).toArray = ls at hl ⊢
  have hl : lv_has ls 8 [(0, .ref h0), (1, .int p1), (2, .int p2)] := hl
  refine lv_aload_n hx hb dX11_look_0 rfl (lv_at hl 0 rfl) ?_
  refine t_gr hx hb hts hown hK hG hB mh0 th0 fq_11_3 rfl mw_2_210 dX11_look_1 (fun b_1 hb_1 mb_1 tb_1 => ?_)
  refine t_gr hx hb hts hown hK hG hB mb_1 tb_1 fq_10_0 rfl mw_1_236 dX11_look_4 (fun b_2 hb_2 mb_2 tb_2 => ?_)
  refine t_gv hx hb hts hown hK hB mb_2 tb_2 fi_3_6 (hZ.at (j := 6) mb_2 tb_2 (by decide : ini 3 6 = 0)) mw_1_164 dX11_look_7 ?_
  refine lv_if_eq (tgt := 32) hx hb dX11_look_10 (by decide) (fun _ => ?_) (fun c9 => absurd (by decide) c9)
  refine lv_iconst (v := (-1)) hx hb dX11_look_32 (by decide) ?_
  exact W.iret (v := (-1)) hx hb hr (fun t ht hW => ⟨⟨(-1), (σ, ρ), rfl, ⟨hB.2.1, hB.2.2, rfl⟩, (show TP D cA L T r σ ρ t.heap from by rw [ht]; exact hB.1)⟩, hS.F ht⟩) hS.2.2 dX11_look_33
set_option maxHeartbeats 4000000 in
set_option maxRecDepth 100000 in
theorem cz_X11_years (l : Launch) (D : va_G) (cA : Nat → ClassId) (L : List Nat) (T : Nat → Nat) (r : Rg) (hG : GR L T r) (hL : L.Nodup) (σ : Sg) (ρ : Lg) (hW : WT L rz T σ) (sz : Nat) (h0 : Nat) (mh0 : h0 ∈ L) (th0 : T h0 = 11) (p1 : Int32) (p2 : Int32) (p3 : Int32) (hZ : ZZ L T σ) : Met l yX11_years (.code yX11_years cX11_years 4 (some .int) :: wsA) ({ frames := 0, cells := 0, slots := 0, locals := 0 }) (PR D cA L T r σ ρ sz [.ref h0, .int p1, .int p2, .int p3]) (QI D cA L T r rz ([] : List (Nat × Nat)) σ sz (fun x σ1 => x = (-1))) 0 0 (dm L sz) := by
  refine Met.ofW (cc := cX11_years) (maxL := 4) (ret := (some .int)) (by decide) rfl ?_
  intro p e s m args below meth c s₁ B hml hv
  obtain ⟨rfl, hsz, hP, hK, hN⟩ := hv
  have hx := B.exec
  have hb := B.bytes
  have hr := B.returns
  have hts : ∀ w ∈ wsA, w.before _ s = true := fun w h => atoms_spec (ws := .code yX11_years cX11_years 4 (some .int) :: wsA) B.pre w (List.mem_cons_of_mem _ h)
  have hown : s.vm.findClass RX11 = some m.cls := findClass_of_methodNamed B.named
  subst hsz
  have hLA : LA (dm L s.heap.size) L := ⟨hL, fun a h => Or.inl h⟩
  have hA : ∀ q : Nat, s.heap.size ≤ q → dm L s.heap.size q := fun q h => Or.inr h
  have hS : va_S (dm L s.heap.size) s.heap s.heap [] := va_S.rf
  have hB : TS D cA L T r rz ([] : List (Nat × Nat)) σ σ ρ s.heap := ⟨hP, hW, FR.rf⟩
  have hl := lv_entry ([.ref h0, .int p1, .int p2, .int p3]) (n := 4) (Nat.le_of_ble_eq_true rfl)
  rw [lg_entry_eq]
  generalize (lg_sl ([.ref h0, .int p1, .int p2, .int p3]) ++ List.replicate (4 - (lg_sl ([.ref h0, .int p1, .int p2, .int p3])).length) Slot.unset).toArray = ls at hl ⊢
  have hl : lv_has ls 4 [(0, .ref h0), (1, .int p1), (2, .int p2), (3, .int p3)] := hl
  refine lv_aload_n hx hb dX11_years_0 rfl (lv_at hl 0 rfl) ?_
  refine t_gr hx hb hts hown hK hG hB mh0 th0 fq_11_3 rfl mw_2_210 dX11_years_1 (fun b_1 hb_1 mb_1 tb_1 => ?_)
  refine t_gr hx hb hts hown hK hG hB mb_1 tb_1 fq_10_0 rfl mw_1_236 dX11_years_4 (fun b_2 hb_2 mb_2 tb_2 => ?_)
  refine t_gv hx hb hts hown hK hB mb_2 tb_2 fi_3_6 (hZ.at (j := 6) mb_2 tb_2 (by decide : ini 3 6 = 0)) mw_1_164 dX11_years_7 ?_
  refine lv_if_eq (tgt := 44) hx hb dX11_years_10 (by decide) (fun _ => ?_) (fun c9 => absurd (by decide) c9)
  refine lv_iconst (v := (-1)) hx hb dX11_years_44 (by decide) ?_
  exact W.iret (v := (-1)) hx hb hr (fun t ht hW => ⟨⟨(-1), (σ, ρ), rfl, ⟨hB.2.1, hB.2.2, rfl⟩, (show TP D cA L T r σ ρ t.heap from by rw [ht]; exact hB.1)⟩, hS.F ht⟩) hS.2.2 dX11_years_45
set_option maxHeartbeats 4000000 in
set_option maxRecDepth 100000 in
theorem cz_X11_back (l : Launch) (D : va_G) (cA : Nat → ClassId) (L : List Nat) (T : Nat → Nat) (r : Rg) (hG : GR L T r) (hL : L.Nodup) (σ : Sg) (ρ : Lg) (hW : WT L rz T σ) (sz : Nat) (h0 : Nat) (mh0 : h0 ∈ L) (th0 : T h0 = 11) (p1 : Int32) (hZ : ZZ L T σ) : Met l yX11_back (.code yX11_back cX11_back 2 (some .int) :: wsA) ({ frames := 0, cells := 0, slots := 0, locals := 0 }) (PR D cA L T r σ ρ sz [.ref h0, .int p1]) (QI D cA L T r rz ([] : List (Nat × Nat)) σ sz (fun x σ1 => x = (-1))) 0 0 (dm L sz) := by
  refine Met.ofW (cc := cX11_back) (maxL := 2) (ret := (some .int)) (by decide) rfl ?_
  intro p e s m args below meth c s₁ B hml hv
  obtain ⟨rfl, hsz, hP, hK, hN⟩ := hv
  have hx := B.exec
  have hb := B.bytes
  have hr := B.returns
  have hts : ∀ w ∈ wsA, w.before _ s = true := fun w h => atoms_spec (ws := .code yX11_back cX11_back 2 (some .int) :: wsA) B.pre w (List.mem_cons_of_mem _ h)
  have hown : s.vm.findClass RX11 = some m.cls := findClass_of_methodNamed B.named
  subst hsz
  have hLA : LA (dm L s.heap.size) L := ⟨hL, fun a h => Or.inl h⟩
  have hA : ∀ q : Nat, s.heap.size ≤ q → dm L s.heap.size q := fun q h => Or.inr h
  have hS : va_S (dm L s.heap.size) s.heap s.heap [] := va_S.rf
  have hB : TS D cA L T r rz ([] : List (Nat × Nat)) σ σ ρ s.heap := ⟨hP, hW, FR.rf⟩
  have hl := lv_entry ([.ref h0, .int p1]) (n := 2) (Nat.le_of_ble_eq_true rfl)
  rw [lg_entry_eq]
  generalize (lg_sl ([.ref h0, .int p1]) ++ List.replicate (2 - (lg_sl ([.ref h0, .int p1])).length) Slot.unset).toArray = ls at hl ⊢
  have hl : lv_has ls 2 [(0, .ref h0), (1, .int p1)] := hl
  refine lv_iload_n hx hb dX11_back_0 rfl (lv_at hl 1 rfl) ?_
  refine lv_if_lt (tgt := 20) hx hb dX11_back_1 (by decide) (fun c_1 => ?_) (fun c_1 => ?_)
  · skip
    have uc_1 := i_lt (n := 0) (by decide) c_1
    refine lv_iconst (v := (-1)) hx hb dX11_back_20 (by decide) ?_
    exact W.iret (v := (-1)) hx hb hr (fun t ht hW => ⟨⟨(-1), (σ, ρ), rfl, ⟨hB.2.1, hB.2.2, rfl⟩, (show TP D cA L T r σ ρ t.heap from by rw [ht]; exact hB.1)⟩, hS.F ht⟩) hS.2.2 dX11_back_21
  · skip
    have uc_1 := i_nlt (n := 0) (by decide) c_1
    refine lv_iload_n hx hb dX11_back_4 rfl (lv_at hl 1 rfl) ?_
    refine lv_iconst (v := 4) hx hb dX11_back_5 (by decide) ?_
    refine lv_icmp_ge (tgt := 20) hx hb dX11_back_6 (by decide) (fun c_2 => ?_) (fun c_2 => ?_)
    · skip
      have uc_2 := i_ge (n := 4) (by decide) c_2
      refine lv_iconst (v := (-1)) hx hb dX11_back_20 (by decide) ?_
      exact W.iret (v := (-1)) hx hb hr (fun t ht hW => ⟨⟨(-1), (σ, ρ), rfl, ⟨hB.2.1, hB.2.2, rfl⟩, (show TP D cA L T r σ ρ t.heap from by rw [ht]; exact hB.1)⟩, hS.F ht⟩) hS.2.2 dX11_back_21
    · skip
      have uc_2 := i_nge (n := 4) (by decide) c_2
      refine lv_aload_n hx hb dX11_back_9 rfl (lv_at hl 0 rfl) ?_
      refine t_gv hx hb hts hown hK hB mh0 th0 fi_11_11 (hZ.at (j := 11) mh0 th0 (by decide : ini 11 11 = 0)) mw_2_218 dX11_back_10 ?_
      refine lv_iload_n hx hb dX11_back_13 rfl (lv_at hl 1 rfl) ?_
      refine lv_ishr hx hb dX11_back_14 ?_
      refine tp_i (w := 0) (z_shr _) ?_
      refine lv_iconst (v := 1) hx hb dX11_back_15 (by decide) ?_
      refine lv_iand hx hb dX11_back_16 ?_
      refine tp_i (w := 0) (by decide) ?_
      refine lv_if_ne (tgt := 22) hx hb dX11_back_17 (by decide) (fun c9 => absurd (by decide) c9) (fun _ => ?_)
      refine lv_iconst (v := (-1)) hx hb dX11_back_20 (by decide) ?_
      exact W.iret (v := (-1)) hx hb hr (fun t ht hW => ⟨⟨(-1), (σ, ρ), rfl, ⟨hB.2.1, hB.2.2, rfl⟩, (show TP D cA L T r σ ρ t.heap from by rw [ht]; exact hB.1)⟩, hS.F ht⟩) hS.2.2 dX11_back_21
set_option maxHeartbeats 4000000 in
set_option maxRecDepth 100000 in
theorem cz_X11_note (l : Launch) (D : va_G) (cA : Nat → ClassId) (L : List Nat) (T : Nat → Nat) (r : Rg) (hG : GR L T r) (hL : L.Nodup) (σ : Sg) (ρ : Lg) (hW : WT L rz T σ) (sz : Nat) (h0 : Nat) (mh0 : h0 ∈ L) (th0 : T h0 = 11) (p1 : Int32) (p2 : Int32) (p3 : Int32) (hZ : ZZ L T σ) : Met l yX11_note (.code yX11_note cX11_note 4 (some .int) :: wsA) ({ frames := 1, cells := 0, slots := 0, locals := 21 }) (PR D cA L T r σ ρ sz [.ref h0, .int p1, .int p2, .int p3]) (QI D cA L T r rz [(10, 6)] σ sz (fun x σ1 => x = if p1.toInt = -1 then 0 else (-2))) 0 0 (dm L sz) := by
  refine Met.ofW (cc := cX11_note) (maxL := 4) (ret := (some .int)) (by decide) rfl ?_
  intro p e s m args below meth c s₁ B hml hv
  obtain ⟨rfl, hsz, hP, hK, hN⟩ := hv
  have hx := B.exec
  have hb := B.bytes
  have hr := B.returns
  have hts : ∀ w ∈ wsA, w.before _ s = true := fun w h => atoms_spec (ws := .code yX11_note cX11_note 4 (some .int) :: wsA) B.pre w (List.mem_cons_of_mem _ h)
  have hown : s.vm.findClass RX11 = some m.cls := findClass_of_methodNamed B.named
  subst hsz
  have hLA : LA (dm L s.heap.size) L := ⟨hL, fun a h => Or.inl h⟩
  have hA : ∀ q : Nat, s.heap.size ≤ q → dm L s.heap.size q := fun q h => Or.inr h
  have hS : va_S (dm L s.heap.size) s.heap s.heap [] := va_S.rf
  have hB : TS D cA L T r rz [(10, 6)] σ σ ρ s.heap := ⟨hP, hW, FR.rf⟩
  have hl := lv_entry ([.ref h0, .int p1, .int p2, .int p3]) (n := 4) (Nat.le_of_ble_eq_true rfl)
  rw [lg_entry_eq]
  generalize (lg_sl ([.ref h0, .int p1, .int p2, .int p3]) ++ List.replicate (4 - (lg_sl ([.ref h0, .int p1, .int p2, .int p3])).length) Slot.unset).toArray = ls at hl ⊢
  have hl : lv_has ls 4 [(0, .ref h0), (1, .int p1), (2, .int p2), (3, .int p3)] := hl
  refine lv_iload_n hx hb dX11_note_0 rfl (lv_at hl 1 rfl) ?_
  refine lv_iconst (v := (-1)) hx hb dX11_note_1 (by decide) ?_
  refine lv_icmp_ne (tgt := 15) hx hb dX11_note_2 (by decide) (fun c_1 => ?_) (fun c_1 => ?_)
  · skip
    have uc_1 := i_ne (n := (-1)) (by decide) c_1
    refine lv_iload_n hx hb dX11_note_15 rfl (lv_at hl 1 rfl) ?_
    refine lv_if_lt (tgt := 53) hx hb dX11_note_16 (by decide) (fun c_2 => ?_) (fun c_2 => ?_)
    · skip
      have uc_2 := i_lt (n := 0) (by decide) c_2
      refine lv_bipush (v := (-2)) hx hb dX11_note_53 (by decide) ?_
      exact W.iret (v := (-2)) hx hb hr (fun t ht hW => ⟨⟨(-2), (σ, ρ), rfl, ⟨hB.2.1, hB.2.2, (if_neg (by omega)).symm⟩, (show TP D cA L T r σ ρ t.heap from by rw [ht]; exact hB.1)⟩, hS.F ht⟩) hS.2.2 dX11_note_55
    · skip
      have uc_2 := i_nlt (n := 0) (by decide) c_2
      refine lv_iload_n hx hb dX11_note_19 rfl (lv_at hl 1 rfl) ?_
      refine lv_bipush (v := 60) hx hb dX11_note_20 (by decide) ?_
      refine lv_icmp_gt (tgt := 53) hx hb dX11_note_22 (by decide) (fun c_3 => ?_) (fun c_3 => ?_)
      · skip
        have uc_3 := i_gt (n := 60) (by decide) c_3
        refine lv_bipush (v := (-2)) hx hb dX11_note_53 (by decide) ?_
        exact W.iret (v := (-2)) hx hb hr (fun t ht hW => ⟨⟨(-2), (σ, ρ), rfl, ⟨hB.2.1, hB.2.2, (if_neg (by omega)).symm⟩, (show TP D cA L T r σ ρ t.heap from by rw [ht]; exact hB.1)⟩, hS.F ht⟩) hS.2.2 dX11_note_55
      · skip
        have uc_3 := i_ngt (n := 60) (by decide) c_3
        refine lv_aload_n hx hb dX11_note_25 rfl (lv_at hl 0 rfl) ?_
        refine lv_iload_n hx hb dX11_note_26 rfl (lv_at hl 2 rfl) ?_
        refine t_ci (va_runV (As := [.int p2]) (rest := []) ⟨hx, hb, hml, hown, hts⟩ (cz_X11_isBend l D cA L T r hG hLA.1 σ ρ hB.2.1 _ h0 mh0 th0 p2) (cV hts mv_X11_isBend mw_4_79 rfl rfl ⟨Nat.le_of_ble_eq_true rfl, Nat.le_of_ble_eq_true rfl⟩) (pV hB.1 hK hN mh0 th0 (show shp cA 11 _ _ _ = .inr (11, Fs11 _ _ _) from rfl) rfl) rfl rfl hl.1 rfl (lv_room (Nat.le_of_ble_eq_true rfl)) dX11_note_27 ⟨Nat.le_of_ble_eq_true rfl, Nat.le_of_ble_eq_true rfl⟩) hLA hA hB hS (by decide) (fun x_6 σ_4 ρ_5 H locs hB fσ_4 pσ_4 hS => ?_)
        subst pσ_4
        refine lv_if_eq (tgt := 53) hx hb dX11_note_30 (by decide) (fun _ => ?_) (fun c9 => absurd (by decide) c9)
        refine lv_bipush (v := (-2)) hx hb dX11_note_53 (by decide) ?_
        exact W.iret (v := (-2)) hx hb hr (fun t ht hW => ⟨⟨(-2), (σ_4, ρ_5), rfl, ⟨hB.2.1, hB.2.2, (if_neg (by omega)).symm⟩, (show TP D cA L T r σ_4 ρ_5 t.heap from by rw [ht]; exact hB.1)⟩, hS.F ht⟩) hS.2.2 dX11_note_55
  · skip
    have uc_1 := i_eq (n := (-1)) (by decide) c_1
    refine lv_aload_n hx hb dX11_note_5 rfl (lv_at hl 0 rfl) ?_
    refine t_gr hx hb hts hown hK hG hB mh0 th0 fq_11_3 rfl mw_2_210 dX11_note_6 (fun b_7 hb_7 mb_7 tb_7 => ?_)
    refine lv_iconst (v := 0) hx hb dX11_note_9 (by decide) ?_
    refine t_pi hx hb hts hown hK hLA hB hS mb_7 tb_7 fi_10_6 rfl rfl rfl (by decide) (by decide) (Or.inl (by decide)) mw_2_13 dX11_note_10 (fun H locs σ_8 eσ_8 hB hS => ?_)
    have k_9 : σ_8 b_7 6 = 0 := by rw [eσ_8]; exact up2_same _ _ _ _
    refine lv_iconst (v := 0) hx hb dX11_note_13 (by decide) ?_
    exact W.iret (v := 0) hx hb hr (fun t ht hW => ⟨⟨0, (σ_8, ρ), rfl, ⟨hB.2.1, hB.2.2, (if_pos (by omega)).symm⟩, (show TP D cA L T r σ_8 ρ t.heap from by rw [ht]; exact hB.1)⟩, hS.F ht⟩) hS.2.2 dX11_note_14
set_option maxHeartbeats 4000000 in
set_option maxRecDepth 100000 in
theorem cz_X11_seed (l : Launch) (D : va_G) (cA : Nat → ClassId) (L : List Nat) (T : Nat → Nat) (r : Rg) (hG : GR L T r) (hL : L.Nodup) (σ : Sg) (ρ : Lg) (hW : WT L rz T σ) (sz : Nat) (h0 : Nat) (mh0 : h0 ∈ L) (th0 : T h0 = 11) (p1 : Int32) (hZ : ZZ L T σ) : Met l yX11_seed (.code yX11_seed cX11_seed 3 (some .int) :: wsA) ({ frames := 0, cells := 0, slots := 0, locals := 0 }) (PR D cA L T r σ ρ sz [.ref h0, .int p1]) (QI D cA L T r rz [(10, 8)] σ sz (fun x σ1 => x = if p1.toInt < 0 then (-1) else 0)) 0 0 (dm L sz) := by
  refine Met.ofW (cc := cX11_seed) (maxL := 3) (ret := (some .int)) (by decide) rfl ?_
  intro p e s m args below meth c s₁ B hml hv
  obtain ⟨rfl, hsz, hP, hK, hN⟩ := hv
  have hx := B.exec
  have hb := B.bytes
  have hr := B.returns
  have hts : ∀ w ∈ wsA, w.before _ s = true := fun w h => atoms_spec (ws := .code yX11_seed cX11_seed 3 (some .int) :: wsA) B.pre w (List.mem_cons_of_mem _ h)
  have hown : s.vm.findClass RX11 = some m.cls := findClass_of_methodNamed B.named
  subst hsz
  have hLA : LA (dm L s.heap.size) L := ⟨hL, fun a h => Or.inl h⟩
  have hA : ∀ q : Nat, s.heap.size ≤ q → dm L s.heap.size q := fun q h => Or.inr h
  have hS : va_S (dm L s.heap.size) s.heap s.heap [] := va_S.rf
  have hB : TS D cA L T r rz [(10, 8)] σ σ ρ s.heap := ⟨hP, hW, FR.rf⟩
  have hl := lv_entry ([.ref h0, .int p1]) (n := 3) (Nat.le_of_ble_eq_true rfl)
  rw [lg_entry_eq]
  generalize (lg_sl ([.ref h0, .int p1]) ++ List.replicate (3 - (lg_sl ([.ref h0, .int p1])).length) Slot.unset).toArray = ls at hl ⊢
  have hl : lv_has ls 3 [(0, .ref h0), (1, .int p1)] := hl
  refine lv_iload_n hx hb dX11_seed_0 rfl (lv_at hl 1 rfl) ?_
  refine lv_if_ge (tgt := 6) hx hb dX11_seed_1 (by decide) (fun c_1 => ?_) (fun c_1 => ?_)
  · skip
    have uc_1 := i_ge (n := 0) (by decide) c_1
    refine lv_aload_n hx hb dX11_seed_6 rfl (lv_at hl 0 rfl) ?_
    refine t_gr hx hb hts hown hK hG hB mh0 th0 fq_11_3 rfl mw_2_210 dX11_seed_7 (fun b_2 hb_2 mb_2 tb_2 => ?_)
    refine t_gv hx hb hts hown hK hB mb_2 tb_2 fi_10_8 (hZ.at (j := 8) mb_2 tb_2 (by decide : ini 10 8 = 0)) mw_2_18 dX11_seed_10 ?_
    refine lv_istore_n (lv' := [(2, .int 0), (0, .ref h0), (1, .int p1)]) hx hb dX11_seed_13 rfl hl (by decide) rfl (fun ls hl => ?_)
    refine lv_aload_n hx hb dX11_seed_14 rfl (lv_at hl 1 rfl) ?_
    refine t_gk hx hb hts hown hK hB mh0 th0 fq_11_3 hb_2 mw_2_210 dX11_seed_15 ?_
    refine lv_iload_n hx hb dX11_seed_18 rfl (lv_at hl 2 rfl) ?_
    refine t_pi hx hb hts hown hK hLA hB hS mb_2 tb_2 fi_10_8 rfl rfl rfl (i_lo _) (i_hi _) (Or.inl (by decide)) mw_2_18 dX11_seed_19 (fun H locs σ_3 eσ_3 hB hS => ?_)
    have k_4 : σ_3 b_2 8 = p1 := by rw [eσ_3]; exact up2_same _ _ _ _
    refine lv_iload_n hx hb dX11_seed_22 rfl (lv_at hl 0 rfl) ?_
    exact W.iret (v := 0) hx hb hr (fun t ht hW => ⟨⟨0, (σ_3, ρ), rfl, ⟨hB.2.1, hB.2.2, (if_neg (by omega)).symm⟩, (show TP D cA L T r σ_3 ρ t.heap from by rw [ht]; exact hB.1)⟩, hS.F ht⟩) hS.2.2 dX11_seed_23
  · skip
    have uc_1 := i_nge (n := 0) (by decide) c_1
    refine lv_iconst (v := (-1)) hx hb dX11_seed_4 (by decide) ?_
    exact W.iret (v := (-1)) hx hb hr (fun t ht hW => ⟨⟨(-1), (σ, ρ), rfl, ⟨hB.2.1, hB.2.2, (if_pos (by omega)).symm⟩, (show TP D cA L T r σ ρ t.heap from by rw [ht]; exact hB.1)⟩, hS.F ht⟩) hS.2.2 dX11_seed_5
set_option maxHeartbeats 4000000 in
set_option maxRecDepth 100000 in
theorem cz_X11_count (l : Launch) (D : va_G) (cA : Nat → ClassId) (L : List Nat) (T : Nat → Nat) (r : Rg) (hG : GR L T r) (hL : L.Nodup) (σ : Sg) (ρ : Lg) (hW : WT L rz T σ) (sz : Nat) (h0 : Nat) (mh0 : h0 ∈ L) (th0 : T h0 = 11) (p1 : Int32) (hZ : ZZ L T σ) : Met l yX11_count (.code yX11_count cX11_count 4 (some .int) :: wsA) ({ frames := 1, cells := 0, slots := 0, locals := 23 }) (PR D cA L T r σ ρ sz [.ref h0, .int p1]) (QI D cA L T r rz ([] : List (Nat × Nat)) σ sz (fun x σ1 => x = if 0 ≤ p1.toInt ∧ p1.toInt ≤ 13 ∧ p1.toInt ≠ 5 then 0 else (-1))) 0 0 (dm L sz) := by
  refine Met.ofW (cc := cX11_count) (maxL := 4) (ret := (some .int)) (by decide) rfl ?_
  intro p e s m args below meth c s₁ B hml hv
  obtain ⟨rfl, hsz, hP, hK, hN⟩ := hv
  have hx := B.exec
  have hb := B.bytes
  have hr := B.returns
  have hts : ∀ w ∈ wsA, w.before _ s = true := fun w h => atoms_spec (ws := .code yX11_count cX11_count 4 (some .int) :: wsA) B.pre w (List.mem_cons_of_mem _ h)
  have hown : s.vm.findClass RX11 = some m.cls := findClass_of_methodNamed B.named
  subst hsz
  have hLA : LA (dm L s.heap.size) L := ⟨hL, fun a h => Or.inl h⟩
  have hA : ∀ q : Nat, s.heap.size ≤ q → dm L s.heap.size q := fun q h => Or.inr h
  have hS : va_S (dm L s.heap.size) s.heap s.heap [] := va_S.rf
  have hB : TS D cA L T r rz ([] : List (Nat × Nat)) σ σ ρ s.heap := ⟨hP, hW, FR.rf⟩
  have hl := lv_entry ([.ref h0, .int p1]) (n := 4) (Nat.le_of_ble_eq_true rfl)
  rw [lg_entry_eq]
  generalize (lg_sl ([.ref h0, .int p1]) ++ List.replicate (4 - (lg_sl ([.ref h0, .int p1])).length) Slot.unset).toArray = ls at hl ⊢
  have hl : lv_has ls 4 [(0, .ref h0), (1, .int p1)] := hl
  refine lv_aload_n hx hb dX11_count_0 rfl (lv_at hl 0 rfl) ?_
  refine t_gr hx hb hts hown hK hG hB mh0 th0 fq_11_3 rfl mw_2_210 dX11_count_1 (fun b_1 hb_1 mb_1 tb_1 => ?_)
  refine t_gr hx hb hts hown hK hG hB mb_1 tb_1 fq_10_1 rfl mw_1_239 dX11_count_4 (fun b_2 hb_2 mb_2 tb_2 => ?_)
  refine lv_astore_n (lv' := [(2, .ref b_2), (0, .ref h0), (1, .int p1)]) hx hb dX11_count_7 rfl hl (by decide) rfl (fun ls hl => ?_)
  refine lv_aload_n hx hb dX11_count_8 rfl (lv_at hl 1 rfl) ?_
  refine t_gk hx hb hts hown hK hB mh0 th0 fq_11_3 hb_1 mw_2_210 dX11_count_9 ?_
  refine t_gr hx hb hts hown hK hG hB mb_1 tb_1 fq_10_0 rfl mw_1_236 dX11_count_12 (fun b_3 hb_3 mb_3 tb_3 => ?_)
  refine lv_astore_n (lv' := [(3, .ref b_3), (2, .ref b_2), (0, .ref h0), (1, .int p1)]) hx hb dX11_count_15 rfl hl (by decide) rfl (fun ls hl => ?_)
  refine lv_iload_n hx hb dX11_count_16 rfl (lv_at hl 3 rfl) ?_
  by_cases c_4 : p1.toInt < 0 ∨ 13 < p1.toInt
  · skip
    refine lv_tableOut (tgt := 178) hx hb dX11_count_17 c_4 (by decide) ?_
    refine lv_iconst (v := (-1)) hx hb dX11_count_178 (by decide) ?_
    exact W.iret (v := (-1)) hx hb hr (fun t ht hW => ⟨⟨(-1), (σ, ρ), rfl, ⟨hB.2.1, hB.2.2, (if_neg (by omega)).symm⟩, (show TP D cA L T r σ ρ t.heap from by rw [ht]; exact hB.1)⟩, hS.F ht⟩) hS.2.2 dX11_count_179
  · skip
    rcases (show p1.toInt = 0 ∨ p1.toInt = 1 ∨ p1.toInt = 2 ∨ p1.toInt = 3 ∨ p1.toInt = 4 ∨ p1.toInt = 5 ∨ p1.toInt = 6 ∨ p1.toInt = 7 ∨ p1.toInt = 8 ∨ p1.toInt = 9 ∨ p1.toInt = 10 ∨ p1.toInt = 11 ∨ p1.toInt = 12 ∨ p1.toInt = 13 by omega) with c_4j | c_4j | c_4j | c_4j | c_4j | c_4j | c_4j | c_4j | c_4j | c_4j | c_4j | c_4j | c_4j | c_4j
    · skip
      have c_4x : p1 = 0 := i_is (by decide) c_4j
      subst c_4x
      refine lv_tableIn (tgt := 88) hx hb dX11_count_17 (by decide) (by decide) rfl (by decide) ?_
      refine lv_aload_n hx hb dX11_count_88 rfl (lv_at hl 0 rfl) ?_
      refine t_gi hx hb hts hown hK hB mb_3 tb_3 fi_3_7 rfl mw_1_170 dX11_count_89 (fun x_5 ex_5 lx_5 ux_5 => ?_)
      obtain rfl : x_5 = 0 := i_is (n := 0) (by decide) (by omega)
      exact W.iret (v := 0) hx hb hr (fun t ht hW => ⟨⟨0, (σ, ρ), rfl, ⟨hB.2.1, hB.2.2, (show (0 : Int32) = if 0 ≤ (0 : Int32).toInt ∧ (0 : Int32).toInt ≤ 13 ∧ (0 : Int32).toInt ≠ 5 then 0 else (-1) by decide)⟩, (show TP D cA L T r σ ρ t.heap from by rw [ht]; exact hB.1)⟩, hS.F ht⟩) hS.2.2 dX11_count_92
    · skip
      have c_4x : p1 = 1 := i_is (by decide) c_4j
      subst c_4x
      refine lv_tableIn (tgt := 93) hx hb dX11_count_17 (by decide) (by decide) rfl (by decide) ?_
      refine lv_aload_n hx hb dX11_count_93 rfl (lv_at hl 0 rfl) ?_
      refine t_gi hx hb hts hown hK hB mb_3 tb_3 fi_3_8 rfl mw_1_177 dX11_count_94 (fun x_6 ex_6 lx_6 ux_6 => ?_)
      obtain rfl : x_6 = 0 := i_is (n := 0) (by decide) (by omega)
      exact W.iret (v := 0) hx hb hr (fun t ht hW => ⟨⟨0, (σ, ρ), rfl, ⟨hB.2.1, hB.2.2, (show (0 : Int32) = if 0 ≤ (1 : Int32).toInt ∧ (1 : Int32).toInt ≤ 13 ∧ (1 : Int32).toInt ≠ 5 then 0 else (-1) by decide)⟩, (show TP D cA L T r σ ρ t.heap from by rw [ht]; exact hB.1)⟩, hS.F ht⟩) hS.2.2 dX11_count_97
    · skip
      have c_4x : p1 = 2 := i_is (by decide) c_4j
      subst c_4x
      refine lv_tableIn (tgt := 98) hx hb dX11_count_17 (by decide) (by decide) rfl (by decide) ?_
      refine lv_aload_n hx hb dX11_count_98 rfl (lv_at hl 0 rfl) ?_
      refine t_gi hx hb hts hown hK hB mb_3 tb_3 fi_3_9 rfl mw_1_182 dX11_count_99 (fun x_7 ex_7 lx_7 ux_7 => ?_)
      obtain rfl : x_7 = 0 := i_is (n := 0) (by decide) (by omega)
      exact W.iret (v := 0) hx hb hr (fun t ht hW => ⟨⟨0, (σ, ρ), rfl, ⟨hB.2.1, hB.2.2, (show (0 : Int32) = if 0 ≤ (2 : Int32).toInt ∧ (2 : Int32).toInt ≤ 13 ∧ (2 : Int32).toInt ≠ 5 then 0 else (-1) by decide)⟩, (show TP D cA L T r σ ρ t.heap from by rw [ht]; exact hB.1)⟩, hS.F ht⟩) hS.2.2 dX11_count_102
    · skip
      have c_4x : p1 = 3 := i_is (by decide) c_4j
      subst c_4x
      refine lv_tableIn (tgt := 103) hx hb dX11_count_17 (by decide) (by decide) rfl (by decide) ?_
      refine lv_aload_n hx hb dX11_count_103 rfl (lv_at hl 0 rfl) ?_
      refine t_gi hx hb hts hown hK hB mb_3 tb_3 fi_3_10 rfl mw_1_189 dX11_count_104 (fun x_8 ex_8 lx_8 ux_8 => ?_)
      obtain rfl : x_8 = 0 := i_is (n := 0) (by decide) (by omega)
      exact W.iret (v := 0) hx hb hr (fun t ht hW => ⟨⟨0, (σ, ρ), rfl, ⟨hB.2.1, hB.2.2, (show (0 : Int32) = if 0 ≤ (3 : Int32).toInt ∧ (3 : Int32).toInt ≤ 13 ∧ (3 : Int32).toInt ≠ 5 then 0 else (-1) by decide)⟩, (show TP D cA L T r σ ρ t.heap from by rw [ht]; exact hB.1)⟩, hS.F ht⟩) hS.2.2 dX11_count_107
    · skip
      have c_4x : p1 = 4 := i_is (by decide) c_4j
      subst c_4x
      refine lv_tableIn (tgt := 108) hx hb dX11_count_17 (by decide) (by decide) rfl (by decide) ?_
      refine lv_aload_n hx hb dX11_count_108 rfl (lv_at hl 2 rfl) ?_
      refine t_gi hx hb hts hown hK hB mh0 th0 fi_11_10 rfl mw_2_217 dX11_count_109 (fun x_9 ex_9 lx_9 ux_9 => ?_)
      obtain rfl : x_9 = 0 := i_is (n := 0) (by decide) (by omega)
      exact W.iret (v := 0) hx hb hr (fun t ht hW => ⟨⟨0, (σ, ρ), rfl, ⟨hB.2.1, hB.2.2, (show (0 : Int32) = if 0 ≤ (4 : Int32).toInt ∧ (4 : Int32).toInt ≤ 13 ∧ (4 : Int32).toInt ≠ 5 then 0 else (-1) by decide)⟩, (show TP D cA L T r σ ρ t.heap from by rw [ht]; exact hB.1)⟩, hS.F ht⟩) hS.2.2 dX11_count_112
    · skip
      have c_4x : p1 = 5 := i_is (by decide) c_4j
      subst c_4x
      refine lv_tableIn (tgt := 113) hx hb dX11_count_17 (by decide) (by decide) rfl (by decide) ?_
      refine lv_aload_n hx hb dX11_count_113 rfl (lv_at hl 2 rfl) ?_
      refine t_gk hx hb hts hown hK hB mh0 th0 fq_11_3 hb_1 mw_2_210 dX11_count_114 ?_
      refine t_gi hx hb hts hown hK hB mb_1 tb_1 fi_10_7 rfl mw_2_15 dX11_count_117 (fun x_10 ex_10 lx_10 ux_10 => ?_)
      obtain rfl : x_10 = (-1) := i_is (n := (-1)) (by decide) (by omega)
      exact W.iret (v := (-1)) hx hb hr (fun t ht hW => ⟨⟨(-1), (σ, ρ), rfl, ⟨hB.2.1, hB.2.2, (show ((-1) : Int32) = if 0 ≤ (5 : Int32).toInt ∧ (5 : Int32).toInt ≤ 13 ∧ (5 : Int32).toInt ≠ 5 then 0 else (-1) by decide)⟩, (show TP D cA L T r σ ρ t.heap from by rw [ht]; exact hB.1)⟩, hS.F ht⟩) hS.2.2 dX11_count_120
    · skip
      have c_4x : p1 = 6 := i_is (by decide) c_4j
      subst c_4x
      refine lv_tableIn (tgt := 121) hx hb dX11_count_17 (by decide) (by decide) rfl (by decide) ?_
      refine lv_aload_n hx hb dX11_count_121 rfl (lv_at hl 1 rfl) ?_
      refine t_gi hx hb hts hown hK hB mb_2 tb_2 fi_8_7 rfl mw_1_112 dX11_count_122 (fun x_11 ex_11 lx_11 ux_11 => ?_)
      obtain rfl : x_11 = 0 := i_is (n := 0) (by decide) (by omega)
      exact W.iret (v := 0) hx hb hr (fun t ht hW => ⟨⟨0, (σ, ρ), rfl, ⟨hB.2.1, hB.2.2, (show (0 : Int32) = if 0 ≤ (6 : Int32).toInt ∧ (6 : Int32).toInt ≤ 13 ∧ (6 : Int32).toInt ≠ 5 then 0 else (-1) by decide)⟩, (show TP D cA L T r σ ρ t.heap from by rw [ht]; exact hB.1)⟩, hS.F ht⟩) hS.2.2 dX11_count_125
    · skip
      have c_4x : p1 = 7 := i_is (by decide) c_4j
      subst c_4x
      refine lv_tableIn (tgt := 126) hx hb dX11_count_17 (by decide) (by decide) rfl (by decide) ?_
      refine lv_aload_n hx hb dX11_count_126 rfl (lv_at hl 0 rfl) ?_
      refine lv_aload_n hx hb dX11_count_127 rfl (lv_at hl 1 rfl) ?_
      refine t_gi hx hb hts hown hK hB mb_2 tb_2 fi_8_6 rfl mw_1_109 dX11_count_128 (fun x_12 ex_12 lx_12 ux_12 => ?_)
      obtain rfl : x_12 = 0 := i_is (n := 0) (by decide) (by omega)
      refine t_ci (va_runV (As := [.int 0]) (rest := []) ⟨hx, hb, hml, hown, hts⟩ (cz_X3_turned l D cA L T r hG hLA.1 σ ρ hB.2.1 _ b_3 mb_3 tb_3 0) (cV hts mv_X3_turned mw_4_99 rfl rfl ⟨Nat.le_of_ble_eq_true rfl, Nat.le_of_ble_eq_true rfl⟩) (pV hB.1 hK hN mb_3 tb_3 (show shp cA 3 _ _ _ = .inr (3, Fs3 _ _ _) from rfl) rfl) rfl rfl hl.1 rfl (lv_room (Nat.le_of_ble_eq_true rfl)) dX11_count_131 ⟨Nat.le_of_ble_eq_true rfl, Nat.le_of_ble_eq_true rfl⟩) hLA hA hB hS (by decide) (fun x_15 σ_13 ρ_14 H locs hB fσ_13 pσ_13 hS => ?_)
      subst pσ_13
      exact W.iret (v := 0) hx hb hr (fun t ht hW => ⟨⟨0, (σ_13, ρ_14), rfl, ⟨hB.2.1, hB.2.2, (show (0 : Int32) = if 0 ≤ (7 : Int32).toInt ∧ (7 : Int32).toInt ≤ 13 ∧ (7 : Int32).toInt ≠ 5 then 0 else (-1) by decide)⟩, (show TP D cA L T r σ_13 ρ_14 t.heap from by rw [ht]; exact hB.1)⟩, hS.F ht⟩) hS.2.2 dX11_count_134
    · skip
      have c_4x : p1 = 8 := i_is (by decide) c_4j
      subst c_4x
      refine lv_tableIn (tgt := 135) hx hb dX11_count_17 (by decide) (by decide) rfl (by decide) ?_
      refine lv_aload_n hx hb dX11_count_135 rfl (lv_at hl 1 rfl) ?_
      refine lv_aload_n hx hb dX11_count_136 rfl (lv_at hl 0 rfl) ?_
      refine t_ci (va_runV (As := [.ref b_3]) (rest := []) ⟨hx, hb, hml, hown, hts⟩ (cz_X8_atTop l D cA L T r hG hLA.1 σ ρ hB.2.1 _ b_2 mb_2 tb_2 b_3 mb_3 tb_3) (cV hts mv_X8_atTop mw_5_189 rfl rfl ⟨Nat.le_of_ble_eq_true rfl, Nat.le_of_ble_eq_true rfl⟩) (pV hB.1 hK hN mb_2 tb_2 (show shp cA 8 _ _ _ = .inr (8, Fs8 _ _ _) from rfl) rfl) rfl rfl hl.1 rfl (lv_room (Nat.le_of_ble_eq_true rfl)) dX11_count_137 ⟨Nat.le_of_ble_eq_true rfl, Nat.le_of_ble_eq_true rfl⟩) hLA hA hB hS (by decide) (fun x_18 σ_16 ρ_17 H locs hB fσ_16 pσ_16 hS => ?_)
      subst pσ_16
      exact W.iret (v := 0) hx hb hr (fun t ht hW => ⟨⟨0, (σ_16, ρ_17), rfl, ⟨hB.2.1, hB.2.2, (show (0 : Int32) = if 0 ≤ (8 : Int32).toInt ∧ (8 : Int32).toInt ≤ 13 ∧ (8 : Int32).toInt ≠ 5 then 0 else (-1) by decide)⟩, (show TP D cA L T r σ_16 ρ_17 t.heap from by rw [ht]; exact hB.1)⟩, hS.F ht⟩) hS.2.2 dX11_count_140
    · skip
      have c_4x : p1 = 9 := i_is (by decide) c_4j
      subst c_4x
      refine lv_tableIn (tgt := 141) hx hb dX11_count_17 (by decide) (by decide) rfl (by decide) ?_
      refine lv_aload_n hx hb dX11_count_141 rfl (lv_at hl 1 rfl) ?_
      refine t_ci (va_runV (As := []) (rest := []) ⟨hx, hb, hml, hown, hts⟩ (cz_X8_lying l D cA L T r hG hLA.1 σ ρ hB.2.1 _ b_2 mb_2 tb_2) (cV hts mv_X8_lying mw_5_193 rfl rfl ⟨Nat.le_of_ble_eq_true rfl, Nat.le_of_ble_eq_true rfl⟩) (pV hB.1 hK hN mb_2 tb_2 (show shp cA 8 _ _ _ = .inr (8, Fs8 _ _ _) from rfl) rfl) rfl rfl hl.1 rfl (lv_room (Nat.le_of_ble_eq_true rfl)) dX11_count_142 ⟨Nat.le_of_ble_eq_true rfl, Nat.le_of_ble_eq_true rfl⟩) hLA hA hB hS (by decide) (fun x_21 σ_19 ρ_20 H locs hB fσ_19 pσ_19 hS => ?_)
      subst pσ_19
      exact W.iret (v := 0) hx hb hr (fun t ht hW => ⟨⟨0, (σ_19, ρ_20), rfl, ⟨hB.2.1, hB.2.2, (show (0 : Int32) = if 0 ≤ (9 : Int32).toInt ∧ (9 : Int32).toInt ≤ 13 ∧ (9 : Int32).toInt ≠ 5 then 0 else (-1) by decide)⟩, (show TP D cA L T r σ_19 ρ_20 t.heap from by rw [ht]; exact hB.1)⟩, hS.F ht⟩) hS.2.2 dX11_count_145
    · skip
      have c_4x : p1 = 10 := i_is (by decide) c_4j
      subst c_4x
      refine lv_tableIn (tgt := 146) hx hb dX11_count_17 (by decide) (by decide) rfl (by decide) ?_
      refine lv_aload_n hx hb dX11_count_146 rfl (lv_at hl 2 rfl) ?_
      refine t_gk hx hb hts hown hK hB mh0 th0 fq_11_3 hb_1 mw_2_210 dX11_count_147 ?_
      refine t_gi hx hb hts hown hK hB mb_1 tb_1 fi_10_6 rfl mw_2_13 dX11_count_150 (fun x_22 ex_22 lx_22 ux_22 => ?_)
      obtain rfl : x_22 = 0 := i_is (n := 0) (by decide) (by omega)
      exact W.iret (v := 0) hx hb hr (fun t ht hW => ⟨⟨0, (σ, ρ), rfl, ⟨hB.2.1, hB.2.2, (show (0 : Int32) = if 0 ≤ (10 : Int32).toInt ∧ (10 : Int32).toInt ≤ 13 ∧ (10 : Int32).toInt ≠ 5 then 0 else (-1) by decide)⟩, (show TP D cA L T r σ ρ t.heap from by rw [ht]; exact hB.1)⟩, hS.F ht⟩) hS.2.2 dX11_count_153
    · skip
      have c_4x : p1 = 11 := i_is (by decide) c_4j
      subst c_4x
      refine lv_tableIn (tgt := 154) hx hb dX11_count_17 (by decide) (by decide) rfl (by decide) ?_
      refine lv_aload_n hx hb dX11_count_154 rfl (lv_at hl 2 rfl) ?_
      refine t_gr hx hb hts hown hK hG hB mh0 th0 fq_11_5 rfl mw_2_212 dX11_count_155 (fun b_23 hb_23 mb_23 tb_23 => ?_)
      refine t_gi hx hb hts hown hK hB mb_23 tb_23 fi_5_1 rfl mw_2_50 dX11_count_158 (fun x_24 ex_24 lx_24 ux_24 => ?_)
      obtain rfl : x_24 = 0 := i_is (n := 0) (by decide) (by omega)
      exact W.iret (v := 0) hx hb hr (fun t ht hW => ⟨⟨0, (σ, ρ), rfl, ⟨hB.2.1, hB.2.2, (show (0 : Int32) = if 0 ≤ (11 : Int32).toInt ∧ (11 : Int32).toInt ≤ 13 ∧ (11 : Int32).toInt ≠ 5 then 0 else (-1) by decide)⟩, (show TP D cA L T r σ ρ t.heap from by rw [ht]; exact hB.1)⟩, hS.F ht⟩) hS.2.2 dX11_count_161
    · skip
      have c_4x : p1 = 12 := i_is (by decide) c_4j
      subst c_4x
      refine lv_tableIn (tgt := 162) hx hb dX11_count_17 (by decide) (by decide) rfl (by decide) ?_
      refine lv_aload_n hx hb dX11_count_162 rfl (lv_at hl 2 rfl) ?_
      refine t_gk hx hb hts hown hK hB mh0 th0 fq_11_3 hb_1 mw_2_210 dX11_count_163 ?_
      refine t_gv hx hb hts hown hK hB mb_1 tb_1 fi_10_8 (hZ.at (j := 8) mb_1 tb_1 (by decide : ini 10 8 = 0)) mw_2_18 dX11_count_166 ?_
      exact W.iret (v := 0) hx hb hr (fun t ht hW => ⟨⟨0, (σ, ρ), rfl, ⟨hB.2.1, hB.2.2, (show (0 : Int32) = if 0 ≤ (12 : Int32).toInt ∧ (12 : Int32).toInt ≤ 13 ∧ (12 : Int32).toInt ≠ 5 then 0 else (-1) by decide)⟩, (show TP D cA L T r σ ρ t.heap from by rw [ht]; exact hB.1)⟩, hS.F ht⟩) hS.2.2 dX11_count_169
    · skip
      have c_4x : p1 = 13 := i_is (by decide) c_4j
      subst c_4x
      refine lv_tableIn (tgt := 170) hx hb dX11_count_17 (by decide) (by decide) rfl (by decide) ?_
      refine lv_aload_n hx hb dX11_count_170 rfl (lv_at hl 2 rfl) ?_
      refine t_gr hx hb hts hown hK hG hB mh0 th0 fq_11_0 rfl mw_2_207 dX11_count_171 (fun b_25 hb_25 mb_25 tb_25 => ?_)
      refine t_gv hx hb hts hown hK hB mb_25 tb_25 fi_9_4 (hZ.at (j := 4) mb_25 tb_25 (by decide : ini 9 4 = 0)) mw_1_40 dX11_count_174 ?_
      exact W.iret (v := 0) hx hb hr (fun t ht hW => ⟨⟨0, (σ, ρ), rfl, ⟨hB.2.1, hB.2.2, (show (0 : Int32) = if 0 ≤ (13 : Int32).toInt ∧ (13 : Int32).toInt ≤ 13 ∧ (13 : Int32).toInt ≠ 5 then 0 else (-1) by decide)⟩, (show TP D cA L T r σ ρ t.heap from by rw [ht]; exact hB.1)⟩, hS.F ht⟩) hS.2.2 dX11_count_177
set_option maxHeartbeats 4000000 in
set_option maxRecDepth 100000 in
theorem cz_X11_image (l : Launch) (D : va_G) (cA : Nat → ClassId) (L : List Nat) (T : Nat → Nat) (r : Rg) (hG : GR L T r) (hL : L.Nodup) (σ : Sg) (ρ : Lg) (hW : WT L rz T σ) (sz : Nat) (h0 : Nat) (mh0 : h0 ∈ L) (th0 : T h0 = 11) (p1 : Int32) (hZ : ZZ L T σ) : Met l yX11_image (.code yX11_image cX11_image 2 (some .int) :: wsA) ({ frames := 4, cells := 0, slots := 0, locals := 163 }) (PR D cA L T r σ ρ sz [.ref h0, .int p1]) (QI D cA L T r rz [(3, 6), (3, 7), (3, 8), (3, 9), (3, 10), (8, 6), (8, 7), (10, 6), (10, 7), (10, 8), (11, 11), (33, 1000), (34, 1000), (35, 1000), (36, 1000), (37, 1000), (45, 1000), (46, 1000), (47, 1000), (48, 1000), (49, 1000), (50, 1000), (55, 1000), (56, 1000), (57, 1000), (58, 1000)] σ sz (fun x σ1 => x = if 0 ≤ p1.toInt ∧ p1.toInt ≤ 3 then 0 else (-1))) 0 0 (dm L sz) := by
  refine Met.ofW (cc := cX11_image) (maxL := 2) (ret := (some .int)) (by decide) rfl ?_
  intro p e s m args below meth c s₁ B hml hv
  obtain ⟨rfl, hsz, hP, hK, hN⟩ := hv
  have hx := B.exec
  have hb := B.bytes
  have hr := B.returns
  have hts : ∀ w ∈ wsA, w.before _ s = true := fun w h => atoms_spec (ws := .code yX11_image cX11_image 2 (some .int) :: wsA) B.pre w (List.mem_cons_of_mem _ h)
  have hown : s.vm.findClass RX11 = some m.cls := findClass_of_methodNamed B.named
  subst hsz
  have hLA : LA (dm L s.heap.size) L := ⟨hL, fun a h => Or.inl h⟩
  have hA : ∀ q : Nat, s.heap.size ≤ q → dm L s.heap.size q := fun q h => Or.inr h
  have hS : va_S (dm L s.heap.size) s.heap s.heap [] := va_S.rf
  have hB : TS D cA L T r rz [(3, 6), (3, 7), (3, 8), (3, 9), (3, 10), (8, 6), (8, 7), (10, 6), (10, 7), (10, 8), (11, 11), (33, 1000), (34, 1000), (35, 1000), (36, 1000), (37, 1000), (45, 1000), (46, 1000), (47, 1000), (48, 1000), (49, 1000), (50, 1000), (55, 1000), (56, 1000), (57, 1000), (58, 1000)] σ σ ρ s.heap := ⟨hP, hW, FR.rf⟩
  have hl := lv_entry ([.ref h0, .int p1]) (n := 2) (Nat.le_of_ble_eq_true rfl)
  rw [lg_entry_eq]
  generalize (lg_sl ([.ref h0, .int p1]) ++ List.replicate (2 - (lg_sl ([.ref h0, .int p1])).length) Slot.unset).toArray = ls at hl ⊢
  have hl : lv_has ls 2 [(0, .ref h0), (1, .int p1)] := hl
  refine lv_iload_n hx hb dX11_image_0 rfl (lv_at hl 1 rfl) ?_
  refine lv_if_lt (tgt := 9) hx hb dX11_image_1 (by decide) (fun c_1 => ?_) (fun c_1 => ?_)
  · skip
    have uc_1 := i_lt (n := 0) (by decide) c_1
    refine lv_iconst (v := (-1)) hx hb dX11_image_9 (by decide) ?_
    exact W.iret (v := (-1)) hx hb hr (fun t ht hW => ⟨⟨(-1), (σ, ρ), rfl, ⟨hB.2.1, hB.2.2, (if_neg (by omega)).symm⟩, (show TP D cA L T r σ ρ t.heap from by rw [ht]; exact hB.1)⟩, hS.F ht⟩) hS.2.2 dX11_image_10
  · skip
    have uc_1 := i_nlt (n := 0) (by decide) c_1
    refine lv_iload_n hx hb dX11_image_4 rfl (lv_at hl 1 rfl) ?_
    refine lv_iconst (v := 4) hx hb dX11_image_5 (by decide) ?_
    refine lv_icmp_lt (tgt := 11) hx hb dX11_image_6 (by decide) (fun c_2 => ?_) (fun c_2 => ?_)
    · skip
      have uc_2 := i_lt (n := 4) (by decide) c_2
      refine lv_aload_n hx hb dX11_image_11 rfl (lv_at hl 0 rfl) ?_
      refine t_gr hx hb hts hown hK hG hB mh0 th0 fq_11_4 rfl mw_2_211 dX11_image_12 (fun b_3 hb_3 mb_3 tb_3 => ?_)
      refine lv_iload_n hx hb dX11_image_15 rfl (lv_at hl 1 rfl) ?_
      refine t_aq hx hb hK hG hB mb_3 tb_3 aq_60 rfl (i_in (by omega) (by omega)) dX11_image_16 (fun b_4 hb_4 mb_4 tb_4 => ?_)
      refine lv_aload_n hx hb dX11_image_17 rfl (lv_at hl 0 rfl) ?_
      refine t_gr hx hb hts hown hK hG hB mh0 th0 fq_11_3 rfl mw_2_210 dX11_image_18 (fun b_5 hb_5 mb_5 tb_5 => ?_)
      refine t_cv (va_runV (As := [.ref b_5]) (rest := []) ⟨hx, hb, hml, hown, hts⟩ (cz_X10_copyFrom l D cA L T r hG hLA.1 σ ρ hB.2.1 _ b_4 mb_4 tb_4 b_5 mb_5 tb_5) (cV hts mv_X10_copyFrom mw_5_201 rfl rfl ⟨Nat.le_of_ble_eq_true rfl, Nat.le_of_ble_eq_true rfl⟩) (pV hB.1 hK hN mb_4 tb_4 (show shp cA 10 _ _ _ = .inr (10, Fs10 _ _ _) from rfl) rfl) rfl rfl hl.1 rfl (lv_room (Nat.le_of_ble_eq_true rfl)) dX11_image_21 ⟨Nat.le_of_ble_eq_true rfl, Nat.le_of_ble_eq_true rfl⟩) hLA hA hB hS (by decide) (fun σ_6 ρ_7 H locs hB fσ_6 pσ_6 hS => ?_)
      refine lv_aload_n hx hb dX11_image_24 rfl (lv_at hl 0 rfl) ?_
      refine lv_dup hx hb dX11_image_25 rfl ?_
      have k_9 : σ_6 h0 11 = 0 := (FR.at fσ_6 th0 (by decide)).trans (hZ.at (j := 11) mh0 th0 (by decide : ini 11 11 = 0))
      refine t_gv hx hb hts hown hK hB mh0 th0 fi_11_11 k_9 mw_2_218 dX11_image_26 ?_
      refine lv_iconst (v := 1) hx hb dX11_image_29 (by decide) ?_
      refine lv_iload_n hx hb dX11_image_30 rfl (lv_at hl 1 rfl) ?_
      refine lv_ishl hx hb dX11_image_31 ?_
      refine lv_topi (fun x_10 ex_10 => ?_)
      refine lv_ior hx hb dX11_image_32 ?_
      refine lv_topi (fun x_11 ex_11 => ?_)
      refine t_pi hx hb hts hown hK hLA hB hS mh0 th0 fi_11_11 rfl rfl rfl (i_lo _) (i_hi _) (Or.inl (by decide)) mw_2_218 dX11_image_33 (fun H locs σ_12 eσ_12 hB hS => ?_)
      have k_13 : σ_12 h0 11 = x_11 := by rw [eσ_12]; exact up2_same _ _ _ _
      refine lv_aload_n hx hb dX11_image_36 rfl (lv_at hl 0 rfl) ?_
      refine t_gk hx hb hts hown hK hB mh0 th0 fq_11_3 hb_5 mw_2_210 dX11_image_37 ?_
      refine t_gr hx hb hts hown hK hG hB mb_5 tb_5 fq_10_1 rfl mw_1_239 dX11_image_40 (fun b_14 hb_14 mb_14 tb_14 => ?_)
      refine t_gi hx hb hts hown hK hB mb_14 tb_14 fi_8_7 rfl mw_1_112 dX11_image_43 (fun x_15 ex_15 lx_15 ux_15 => ?_)
      obtain rfl : x_15 = 0 := i_is (n := 0) (by decide) (by omega)
      exact W.iret (v := 0) hx hb hr (fun t ht hW => ⟨⟨0, (σ_12, ρ_7), rfl, ⟨hB.2.1, hB.2.2, (if_pos (by omega)).symm⟩, (show TP D cA L T r σ_12 ρ_7 t.heap from by rw [ht]; exact hB.1)⟩, hS.F ht⟩) hS.2.2 dX11_image_46
    · skip
      have uc_2 := i_nlt (n := 4) (by decide) c_2
      refine lv_iconst (v := (-1)) hx hb dX11_image_9 (by decide) ?_
      exact W.iret (v := (-1)) hx hb hr (fun t ht hW => ⟨⟨(-1), (σ, ρ), rfl, ⟨hB.2.1, hB.2.2, (if_neg (by omega)).symm⟩, (show TP D cA L T r σ ρ t.heap from by rw [ht]; exact hB.1)⟩, hS.F ht⟩) hS.2.2 dX11_image_10
