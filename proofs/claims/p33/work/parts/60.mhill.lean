theorem sb_z (j : Nat) : (sb j).1 ≤ 0 ∧ 0 ≤ (sb j).2 := by
  unfold sb; repeat' split
  all_goals decide
theorem mw_5_223 : (.fieldLink RX12 26 "HillBendsModel" "read" "[I" : Cond) ∈ wsA := wsA_t (List.mem_append_right _ (List.mem_append_right _ (List.mem_append_right _ (List.mem_append_right _ (List.mem_append_left _ (List.mem_of_getElem? (l := tables_1_5) (i := 223) rfl)))))) rfl
theorem dX12_cellHere_0 : decode cX12_cellHere 0 = .ok (.aload_n 0, 1) := by decide +kernel
theorem dX12_cellHere_1 : decode cX12_cellHere 1 = .ok (.iload_n 2, 1) := by decide +kernel
theorem dX12_cellHere_2 : decode cX12_cellHere 2 = .ok (.iload_n 3, 1) := by decide +kernel
theorem dX12_cellHere_3 : decode cX12_cellHere 3 = .ok (.invokevirtual 175, 3) := by decide +kernel
theorem dX12_cellHere_6 : decode cX12_cellHere 6 = .ok (.ifCond .ne 5, 3) := by decide +kernel
theorem dX12_cellHere_11 : decode cX12_cellHere 11 = .ok (.aload_n 0, 1) := by decide +kernel
theorem dX12_cellHere_12 : decode cX12_cellHere 12 = .ok (.getfield 26, 3) := by decide +kernel
theorem dX12_cellHere_15 : decode cX12_cellHere 15 = .ok (.iload_n 1, 1) := by decide +kernel
theorem dX12_cellHere_16 : decode cX12_cellHere 16 = .ok (.aload_n 0, 1) := by decide +kernel
theorem dX12_cellHere_17 : decode cX12_cellHere 17 = .ok (.getfield 127, 3) := by decide +kernel
theorem dX12_cellHere_20 : decode cX12_cellHere 20 = .ok (.iastore, 1) := by decide +kernel
theorem dX12_cellHere_21 : decode cX12_cellHere 21 = .ok (.iconst 1, 1) := by decide +kernel
theorem dX12_cellHere_22 : decode cX12_cellHere 22 = .ok (.ireturn, 1) := by decide +kernel
theorem dX12_cellHere_9 : decode cX12_cellHere 9 = .ok (.iconst 0, 1) := by decide +kernel
theorem dX12_cellHere_10 : decode cX12_cellHere 10 = .ok (.ireturn, 1) := by decide +kernel
set_option maxHeartbeats 4000000 in
set_option maxRecDepth 100000 in
theorem cz_X12_cellHere (l : Launch) (D : va_G) (cA : Nat → ClassId) (L : List Nat) (T : Nat → Nat) (r : Rg) (hG : GR L T r) (hL : L.Nodup) (σ : Sg) (ρ : Lg) (hW : WT L ry T σ) (sz : Nat) (h0 : Nat) (mh0 : h0 ∈ L) (th0 : T h0 = 12) (p1 : Int32) (p2 : Int32) (p3 : Int32) (bt : Nat) (hbt : r h0 0 = some bt) (mbt : bt ∈ L) (tbt : T bt = 61) (bd : Nat) (hbd : r h0 7 = some bd) (mbd : bd ∈ L) (tbd : T bd = 66) (w0 : 0 ≤ p1.toInt) (w1 : p1.toInt ≤ 164) (w2 : (sb p1.toNatClampNeg).1 ≤ p2.toInt) (w3 : p3.toInt ≤ (sb p1.toNatClampNeg).2) : Met l yX12_cellHere (.code yX12_cellHere cX12_cellHere 4 (some .boolean) :: wsA) ({ frames := 2, cells := 0, slots := 0, locals := 49 }) (PR D cA L T r σ ρ sz [.ref h0, .int p1, .int p2, .int p3]) (QI D cA L T r ry [(12, 8), (12, 9), (12, 10), (66, 1000)] σ sz (fun x σ1 => (0 ≤ x.toInt ∧ x.toInt ≤ 1) ∧ ((σ h0 8).toInt ≤ (σ1 h0 8).toInt) ∧ (∀ j : Nat, j ≠ p1.toNatClampNeg → σ1 bd j = σ bd j))) 0 0 (dm L sz) := by
  refine Met.ofW (cc := cX12_cellHere) (maxL := 4) (ret := (some .boolean)) (by decide) rfl ?_
  intro p e s m args below meth c s₁ B hml hv
  obtain ⟨rfl, hsz, hP, hK, hN⟩ := hv
  have hx := B.exec
  have hb := B.bytes
  have hr := B.returns
  have hts : ∀ w ∈ wsA, w.before _ s = true := fun w h => atoms_spec (ws := .code yX12_cellHere cX12_cellHere 4 (some .boolean) :: wsA) B.pre w (List.mem_cons_of_mem _ h)
  have hown : s.vm.findClass RX12 = some m.cls := findClass_of_methodNamed B.named
  subst hsz
  have hLA : LA (dm L s.heap.size) L := ⟨hL, fun a h => Or.inl h⟩
  have hA : ∀ q : Nat, s.heap.size ≤ q → dm L s.heap.size q := fun q h => Or.inr h
  have hS : va_S (dm L s.heap.size) s.heap s.heap [] := va_S.rf
  have hB : TS D cA L T r ry [(12, 8), (12, 9), (12, 10), (66, 1000)] σ σ ρ s.heap := ⟨hP, hW, FR.rf⟩
  have hl := lv_entry ([.ref h0, .int p1, .int p2, .int p3]) (n := 4) (Nat.le_of_ble_eq_true rfl)
  rw [lg_entry_eq]
  generalize (lg_sl ([.ref h0, .int p1, .int p2, .int p3]) ++ List.replicate (4 - (lg_sl ([.ref h0, .int p1, .int p2, .int p3])).length) Slot.unset).toArray = ls at hl ⊢
  have hl : lv_has ls 4 [(0, .ref h0), (1, .int p1), (2, .int p2), (3, .int p3)] := hl
  have w_1 : 0 ≤ (σ h0 8).toInt ∧ (σ h0 8).toInt ≤ 400 := by have z := hB.2.1 h0 mh0 8; rw [th0] at z; exact z
  have w_2 : 0 ≤ (σ h0 1).toInt ∧ (σ h0 1).toInt ≤ 400 := by have z := hB.2.1 h0 mh0 1; rw [th0] at z; exact z
  refine lv_aload_n hx hb dX12_cellHere_0 rfl (lv_at hl 0 rfl) ?_
  refine lv_iload_n hx hb dX12_cellHere_1 rfl (lv_at hl 2 rfl) ?_
  refine lv_iload_n hx hb dX12_cellHere_2 rfl (lv_at hl 3 rfl) ?_
  refine t_ci (va_runV (As := [.int p2, .int p3]) (rest := []) ⟨hx, hb, hml, hown, hts⟩ (cz_X12_numberHere l D cA L T r hG hLA.1 σ ρ hB.2.1 _ h0 mh0 th0 p2 p3 bt hbt mbt tbt) (cV hts mv_X12_numberHere mw_6_177 rfl rfl ⟨Nat.le_of_ble_eq_true rfl, Nat.le_of_ble_eq_true rfl⟩) (pV hB.1 hK hN mh0 th0 (show shp cA 12 _ _ _ = .inr (12, Fs12 _ _ _) from rfl) rfl) rfl rfl hl.1 rfl (lv_room (Nat.le_of_ble_eq_true rfl)) dX12_cellHere_3 ⟨Nat.le_of_ble_eq_true rfl, Nat.le_of_ble_eq_true rfl⟩) hLA hA hB hS (by decide) (fun x_5 σ_3 ρ_4 H locs hB fσ_3 pσ_3 hS => ?_)
  obtain ⟨g_6, g_7, g_8, g_9⟩ := pσ_3
  have w_10 : 0 ≤ (σ_3 h0 8).toInt ∧ (σ_3 h0 8).toInt ≤ 400 := by have z := hB.2.1 h0 mh0 8; rw [th0] at z; exact z
  have w_11 : (-2147483648) ≤ (σ_3 h0 10).toInt ∧ (σ_3 h0 10).toInt ≤ 2147483647 := by have z := hB.2.1 h0 mh0 10; rw [th0] at z; exact z
  obtain ⟨lx_5, ux_5⟩ := g_6
  have k_12 : σ_3 h0 1 = (σ h0 1) := (FR.at fσ_3 th0 (by decide)).trans rfl
  have cq_13 : (σ_3 h0 1).toInt = (σ h0 1).toInt := congrArg Int32.toInt k_12
  refine lv_if_ne (tgt := 11) hx hb dX12_cellHere_6 (by decide) (fun c_14 => ?_) (fun c_14 => ?_)
  · skip
    have uc_14 := i_ne (n := 0) (by decide) c_14
    refine lv_aload_n hx hb dX12_cellHere_11 rfl (lv_at hl 0 rfl) ?_
    refine t_gk hx hb hts hown hK hB mh0 th0 fq_12_7 hbd mw_5_223 dX12_cellHere_12 ?_
    refine lv_iload_n hx hb dX12_cellHere_15 rfl (lv_at hl 1 rfl) ?_
    refine lv_aload_n hx hb dX12_cellHere_16 rfl (lv_at hl 0 rfl) ?_
    refine t_gv hx hb hts hown hK hB mh0 th0 fi_12_10 rfl mw_5_226 dX12_cellHere_17 ?_
    refine t_si hx hb hK hLA hB hS mbd tbd ai_66 (i_in (by omega) (by omega)) (show (sb _).1 ≤ _ by omega) (show _ ≤ (sb _).2 by omega) (Or.inr (by decide)) dX12_cellHere_20 (fun H locs σ_15 eσ_15 hB hS => ?_)
    have k_16 : σ_15 bd p1.toNatClampNeg = (σ_3 h0 10) := by rw [eσ_15]; exact up2_same _ _ _ _
    refine lv_iconst (v := 1) hx hb dX12_cellHere_21 (by decide) ?_
    have k_17 : σ_15 h0 8 = (σ_3 h0 8) := by rw [eσ_15, up2_nea _ _ (tg_ne th0 tbd (by decide))]
    have k_18 := FR.row fσ_3 tbd (fun j => by simp)
    have k_19 := FR.row fσ_3 tbd (fun j => by simp)
    exact W.zret (v := 1) hx hb hr rfl (fun t ht hW => ⟨⟨1, (σ_15, ρ_4), rfl, ⟨hB.2.1, hB.2.2, ⟨(show 0 ≤ (1 : Int32).toInt ∧ (1 : Int32).toInt ≤ 1 from ⟨by decide, by decide⟩), (show (σ h0 8).toInt ≤ (σ_15 h0 8).toInt from (by rw [k_17]; omega)), (show ∀ j : Nat, j ≠ p1.toNatClampNeg → σ_15 bd j = σ bd j from (fun j hj => by rw [eσ_15, up2_nej _ _ hj, (k_19)]))⟩⟩, (show TP D cA L T r σ_15 ρ_4 t.heap from by rw [ht]; exact hB.1)⟩, hS.F ht⟩) hS.2.2 dX12_cellHere_22
  · skip
    have uc_14 := i_eq (n := 0) (by decide) c_14
    refine lv_iconst (v := 0) hx hb dX12_cellHere_9 (by decide) ?_
    have k_20 := FR.row fσ_3 tbd (fun j => by simp)
    exact W.zret (v := 0) hx hb hr rfl (fun t ht hW => ⟨⟨0, (σ_3, ρ_4), rfl, ⟨hB.2.1, hB.2.2, ⟨(show 0 ≤ (0 : Int32).toInt ∧ (0 : Int32).toInt ≤ 1 from ⟨by decide, by decide⟩), (show (σ h0 8).toInt ≤ (σ_3 h0 8).toInt from (by omega)), (show ∀ j : Nat, j ≠ p1.toNatClampNeg → σ_3 bd j = σ bd j from (fun j hj => by rw [(k_20)]))⟩⟩, (show TP D cA L T r σ_3 ρ_4 t.heap from by rw [ht]; exact hB.1)⟩, hS.F ht⟩) hS.2.2 dX12_cellHere_10
theorem mw_6_175 : (.instanceMethod yX12_cellHere : Cond) ∈ wsA := wsA_t (List.mem_append_right _ (List.mem_append_right _ (List.mem_append_right _ (List.mem_append_right _ (List.mem_append_right _ (List.mem_append_left _ (List.mem_of_getElem? (l := tables_1_6) (i := 175) rfl))))))) rfl
theorem mp_4_5 : (.selects RX12 yX12_cellHere yX12_cellHere : Cond) ∈ wsA := wsA_p (q := (yX12_cellHere, 44)) (List.mem_append_right _ (List.mem_append_right _ (List.mem_append_right _ (List.mem_append_left _ (List.mem_of_getElem? (l := lw_privs_4) (i := 5) rfl)))))
theorem mw_6_176 : (.code yX12_cellHere cX12_cellHere 4 (some .boolean) : Cond) ∈ wsA := wsA_t (List.mem_append_right _ (List.mem_append_right _ (List.mem_append_right _ (List.mem_append_right _ (List.mem_append_right _ (List.mem_append_left _ (List.mem_of_getElem? (l := tables_1_6) (i := 176) rfl))))))) rfl
theorem mw_6_173 : (.methodLink RX12 226 yX12_cellHere : Cond) ∈ wsA := wsA_t (List.mem_append_right _ (List.mem_append_right _ (List.mem_append_right _ (List.mem_append_right _ (List.mem_append_right _ (List.mem_append_left _ (List.mem_of_getElem? (l := tables_1_6) (i := 173) rfl))))))) rfl
theorem dX12_isHillHere_0 : decode cX12_isHillHere 0 = .ok (.aload_n 0, 1) := by decide +kernel
theorem dX12_isHillHere_1 : decode cX12_isHillHere 1 = .ok (.getfield 26, 3) := by decide +kernel
theorem dX12_isHillHere_4 : decode cX12_isHillHere 4 = .ok (.iconst 0, 1) := by decide +kernel
theorem dX12_isHillHere_5 : decode cX12_isHillHere 5 = .ok (.iaload, 1) := by decide +kernel
theorem dX12_isHillHere_6 : decode cX12_isHillHere 6 = .ok (.ifCond .le 10, 3) := by decide +kernel
theorem dX12_isHillHere_16 : decode cX12_isHillHere 16 = .ok (.aload_n 0, 1) := by decide +kernel
theorem dX12_isHillHere_17 : decode cX12_isHillHere 17 = .ok (.invokevirtual 117, 3) := by decide +kernel
theorem dX12_isHillHere_20 : decode cX12_isHillHere 20 = .ok (.aload_n 0, 1) := by decide +kernel
theorem dX12_isHillHere_21 : decode cX12_isHillHere 21 = .ok (.iconst 0, 1) := by decide +kernel
theorem dX12_isHillHere_22 : decode cX12_isHillHere 22 = .ok (.iconst 1, 1) := by decide +kernel
theorem dX12_isHillHere_23 : decode cX12_isHillHere 23 = .ok (.bipush 40, 2) := by decide +kernel
theorem dX12_isHillHere_25 : decode cX12_isHillHere 25 = .ok (.invokevirtual 226, 3) := by decide +kernel
theorem dX12_isHillHere_28 : decode cX12_isHillHere 28 = .ok (.ireturn, 1) := by decide +kernel
theorem dX12_isHillHere_9 : decode cX12_isHillHere 9 = .ok (.aload_n 0, 1) := by decide +kernel
theorem dX12_isHillHere_10 : decode cX12_isHillHere 10 = .ok (.iconst 4, 1) := by decide +kernel
theorem dX12_isHillHere_11 : decode cX12_isHillHere 11 = .ok (.iload_n 1, 1) := by decide +kernel
theorem dX12_isHillHere_12 : decode cX12_isHillHere 12 = .ok (.invokevirtual 123, 3) := by decide +kernel
theorem dX12_isHillHere_15 : decode cX12_isHillHere 15 = .ok (.ireturn, 1) := by decide +kernel
theorem mv_X12_cellHere : MV RX12 yX12_cellHere cX12_cellHere 4 (some .boolean) 3 := ⟨mw_6_175, mp_4_5, mw_1_13, mw_6_176, ⟨rfl, by decide, by decide, by decide +kernel⟩⟩
set_option maxHeartbeats 4000000 in
set_option maxRecDepth 100000 in
theorem cz_X12_isHillHere (l : Launch) (D : va_G) (cA : Nat → ClassId) (L : List Nat) (T : Nat → Nat) (r : Rg) (hG : GR L T r) (hL : L.Nodup) (σ : Sg) (ρ : Lg) (hW : WT L ry T σ) (sz : Nat) (h0 : Nat) (mh0 : h0 ∈ L) (th0 : T h0 = 12) (p1 : Int32) (bt : Nat) (hbt : r h0 0 = some bt) (mbt : bt ∈ L) (tbt : T bt = 61) (bd : Nat) (hbd : r h0 7 = some bd) (mbd : bd ∈ L) (tbd : T bd = 66) (w0 : 0 ≤ p1.toInt) (w1 : p1.toInt ≤ 400) : Met l yX12_isHillHere (.code yX12_isHillHere cX12_isHillHere 2 (some .boolean) :: wsA) ({ frames := 3, cells := 0, slots := 0, locals := 72 }) (PR D cA L T r σ ρ sz [.ref h0, .int p1]) (QI D cA L T r ry [(12, 8), (12, 9), (12, 10), (66, 1000)] σ sz (fun x σ1 => (0 ≤ x.toInt ∧ x.toInt ≤ 1) ∧ ((σ h0 8).toInt ≤ (σ1 h0 8).toInt))) 0 0 (dm L sz) := by
  refine Met.ofW (cc := cX12_isHillHere) (maxL := 2) (ret := (some .boolean)) (by decide) rfl ?_
  intro p e s m args below meth c s₁ B hml hv
  obtain ⟨rfl, hsz, hP, hK, hN⟩ := hv
  have hx := B.exec
  have hb := B.bytes
  have hr := B.returns
  have hts : ∀ w ∈ wsA, w.before _ s = true := fun w h => atoms_spec (ws := .code yX12_isHillHere cX12_isHillHere 2 (some .boolean) :: wsA) B.pre w (List.mem_cons_of_mem _ h)
  have hown : s.vm.findClass RX12 = some m.cls := findClass_of_methodNamed B.named
  subst hsz
  have hLA : LA (dm L s.heap.size) L := ⟨hL, fun a h => Or.inl h⟩
  have hA : ∀ q : Nat, s.heap.size ≤ q → dm L s.heap.size q := fun q h => Or.inr h
  have hS : va_S (dm L s.heap.size) s.heap s.heap [] := va_S.rf
  have hB : TS D cA L T r ry [(12, 8), (12, 9), (12, 10), (66, 1000)] σ σ ρ s.heap := ⟨hP, hW, FR.rf⟩
  have hl := lv_entry ([.ref h0, .int p1]) (n := 2) (Nat.le_of_ble_eq_true rfl)
  rw [lg_entry_eq]
  generalize (lg_sl ([.ref h0, .int p1]) ++ List.replicate (2 - (lg_sl ([.ref h0, .int p1])).length) Slot.unset).toArray = ls at hl ⊢
  have hl : lv_has ls 2 [(0, .ref h0), (1, .int p1)] := hl
  have w_1 : 0 ≤ (σ h0 8).toInt ∧ (σ h0 8).toInt ≤ 400 := by have z := hB.2.1 h0 mh0 8; rw [th0] at z; exact z
  have w_2 : 0 ≤ (σ h0 1).toInt ∧ (σ h0 1).toInt ≤ 400 := by have z := hB.2.1 h0 mh0 1; rw [th0] at z; exact z
  have w_3 : 0 ≤ (σ bd 1).toInt ∧ (σ bd 1).toInt ≤ 5 := by have z := hB.2.1 bd mbd 1; rw [tbd] at z; exact z
  have w_4 : 0 ≤ (σ bd 2).toInt ∧ (σ bd 2).toInt ≤ 8 := by have z := hB.2.1 bd mbd 2; rw [tbd] at z; exact z
  have w_5 : 0 ≤ (σ bd 3).toInt ∧ (σ bd 3).toInt ≤ 4 := by have z := hB.2.1 bd mbd 3; rw [tbd] at z; exact z
  refine lv_aload_n hx hb dX12_isHillHere_0 rfl (lv_at hl 0 rfl) ?_
  refine t_gk hx hb hts hown hK hB mh0 th0 fq_12_7 hbd mw_5_223 dX12_isHillHere_1 ?_
  refine lv_iconst (v := 0) hx hb dX12_isHillHere_4 (by decide) ?_
  refine t_aj hx hb hK hB mbd tbd ai_66 (i_in (by decide) (by decide)) dX12_isHillHere_5 (fun x_6 ex_6 lx_6 ux_6 => ?_)
  have lx_6 : (-2147483648) ≤ x_6.toInt := lx_6
  have ux_6 : x_6.toInt ≤ 2147483647 := ux_6
  have cx_6 := congrArg Int32.toInt ex_6
  refine lv_if_le (tgt := 16) hx hb dX12_isHillHere_6 (by decide) (fun c_7 => ?_) (fun c_7 => ?_)
  · skip
    have uc_7 := i_le (n := 0) (by decide) c_7
    refine lv_aload_n hx hb dX12_isHillHere_16 rfl (lv_at hl 0 rfl) ?_
    refine t_cv (va_runV (As := []) (rest := []) ⟨hx, hb, hml, hown, hts⟩ (cz_X12_passWord l D cA L T r hG hLA.1 σ ρ hB.2.1 _ h0 mh0 th0 bt hbt mbt tbt) (cV hts mv_X12_passWord mw_6_169 rfl rfl ⟨Nat.le_of_ble_eq_true rfl, Nat.le_of_ble_eq_true rfl⟩) (pV hB.1 hK hN mh0 th0 (show shp cA 12 _ _ _ = .inr (12, Fs12 _ _ _) from rfl) rfl) rfl rfl hl.1 rfl (lv_room (Nat.le_of_ble_eq_true rfl)) dX12_isHillHere_17 ⟨Nat.le_of_ble_eq_true rfl, Nat.le_of_ble_eq_true rfl⟩) hLA hA hB hS (by decide) (fun σ_8 ρ_9 H locs hB fσ_8 pσ_8 hS => ?_)
    obtain ⟨g_11, g_12⟩ := pσ_8
    have w_13 : 0 ≤ (σ_8 h0 8).toInt ∧ (σ_8 h0 8).toInt ≤ 400 := by have z := hB.2.1 h0 mh0 8; rw [th0] at z; exact z
    have k_14 : σ_8 h0 1 = (σ h0 1) := (FR.at fσ_8 th0 (by decide)).trans rfl
    have cq_15 : (σ_8 h0 1).toInt = (σ h0 1).toInt := congrArg Int32.toInt k_14
    refine lv_aload_n hx hb dX12_isHillHere_20 rfl (lv_at hl 0 rfl) ?_
    refine lv_iconst (v := 0) hx hb dX12_isHillHere_21 (by decide) ?_
    refine lv_iconst (v := 1) hx hb dX12_isHillHere_22 (by decide) ?_
    refine lv_bipush (v := 40) hx hb dX12_isHillHere_23 (by decide) ?_
    have k_16 : σ_8 bd 0 = x_6 := (FR.at fσ_8 tbd (by decide)).trans ex_6.symm
    have k_17 : σ_8 bd 1 = (σ bd 1) := (FR.at fσ_8 tbd (by decide)).trans rfl
    have k_18 : σ_8 bd 2 = (σ bd 2) := (FR.at fσ_8 tbd (by decide)).trans rfl
    have k_19 : σ_8 bd 3 = (σ bd 3) := (FR.at fσ_8 tbd (by decide)).trans rfl
    refine t_ci (va_runV (As := [.int 0, .int 1, .int 40]) (rest := []) ⟨hx, hb, hml, hown, hts⟩ (cz_X12_cellHere l D cA L T r hG hLA.1 σ_8 ρ_9 hB.2.1 _ h0 mh0 th0 0 1 40 bt hbt mbt tbt bd hbd mbd tbd (by first | omega | decide) (by first | omega | decide) (by show (-2147483648 : Int) ≤ _; exact i_lo _) (by show _ ≤ (2147483647 : Int); exact i_hi _)) (cV hts mv_X12_cellHere mw_6_173 rfl rfl ⟨Nat.le_of_ble_eq_true rfl, Nat.le_of_ble_eq_true rfl⟩) (pV hB.1 hK hN mh0 th0 (show shp cA 12 _ _ _ = .inr (12, Fs12 _ _ _) from rfl) rfl) rfl rfl hl.1 rfl (lv_room (Nat.le_of_ble_eq_true rfl)) dX12_isHillHere_25 ⟨Nat.le_of_ble_eq_true rfl, Nat.le_of_ble_eq_true rfl⟩) hLA hA hB hS (by decide) (fun x_22 σ_20 ρ_21 H locs hB fσ_20 pσ_20 hS => ?_)
    obtain ⟨g_23, g_24, g_25⟩ := pσ_20
    have w_26 : 0 ≤ (σ_20 h0 8).toInt ∧ (σ_20 h0 8).toInt ≤ 400 := by have z := hB.2.1 h0 mh0 8; rw [th0] at z; exact z
    have k_27 : σ_20 bd 1 = (σ bd 1) := (g_25 1 (by have hn : (0 : Int32).toNatClampNeg = 0 := (by decide); omega)).trans k_17
    have k_28 : σ_20 bd 2 = (σ bd 2) := (g_25 2 (by have hn : (0 : Int32).toNatClampNeg = 0 := (by decide); omega)).trans k_18
    have k_29 : σ_20 bd 3 = (σ bd 3) := (g_25 3 (by have hn : (0 : Int32).toNatClampNeg = 0 := (by decide); omega)).trans k_19
    obtain ⟨lx_22, ux_22⟩ := g_23
    have k_30 : σ_20 h0 1 = (σ h0 1) := (FR.at fσ_20 th0 (by decide)).trans k_14
    have cq_31 : (σ_20 h0 1).toInt = (σ h0 1).toInt := congrArg Int32.toInt k_30
    exact W.zret (v := x_22) hx hb hr (n_bool (by omega) (by omega)) (fun t ht hW => ⟨⟨x_22, (σ_20, ρ_21), rfl, ⟨hB.2.1, hB.2.2, ⟨(show 0 ≤ (x_22 : Int32).toInt ∧ (x_22 : Int32).toInt ≤ 1 from ⟨by omega, by omega⟩), (show (σ h0 8).toInt ≤ (σ_20 h0 8).toInt from (by omega))⟩⟩, (show TP D cA L T r σ_20 ρ_21 t.heap from by rw [ht]; exact hB.1)⟩, hS.F ht⟩) hS.2.2 dX12_isHillHere_28
  · skip
    have uc_7 := i_nle (n := 0) (by decide) c_7
    refine lv_aload_n hx hb dX12_isHillHere_9 rfl (lv_at hl 0 rfl) ?_
    refine lv_iconst (v := 4) hx hb dX12_isHillHere_10 (by decide) ?_
    refine lv_iload_n hx hb dX12_isHillHere_11 rfl (lv_at hl 1 rfl) ?_
    refine t_ci (va_runV (As := [.int 4, .int p1]) (rest := []) ⟨hx, hb, hml, hown, hts⟩ (cy_X12_fails l D cA L T r hG hLA.1 σ ρ hB.2.1 _ h0 mh0 th0 4 p1 (by first | omega | decide) (by first | omega | decide) (by first | omega | decide) (by first | omega | decide)) (cV hts mv_X12_fails mw_6_157 rfl rfl ⟨Nat.le_of_ble_eq_true rfl, Nat.le_of_ble_eq_true rfl⟩) (pV hB.1 hK hN mh0 th0 (show shp cA 12 _ _ _ = .inr (12, Fs12 _ _ _) from rfl) rfl) rfl rfl hl.1 rfl (lv_room (Nat.le_of_ble_eq_true rfl)) dX12_isHillHere_12 ⟨Nat.le_of_ble_eq_true rfl, Nat.le_of_ble_eq_true rfl⟩) hLA hA hB hS (by decide) (fun x_34 σ_32 ρ_33 H locs hB fσ_32 pσ_32 hS => ?_)
    subst pσ_32
    have k_35 : σ_32 h0 8 = (σ h0 8) := (FR.at fσ_32 th0 (by decide)).trans rfl
    have cq_36 : (σ_32 h0 8).toInt = (σ h0 8).toInt := congrArg Int32.toInt k_35
    have k_37 : σ_32 h0 1 = (σ h0 1) := (FR.at fσ_32 th0 (by decide)).trans rfl
    have cq_38 : (σ_32 h0 1).toInt = (σ h0 1).toInt := congrArg Int32.toInt k_37
    exact W.zret (v := 0) hx hb hr rfl (fun t ht hW => ⟨⟨0, (σ_32, ρ_33), rfl, ⟨hB.2.1, hB.2.2, ⟨(show 0 ≤ (0 : Int32).toInt ∧ (0 : Int32).toInt ≤ 1 from ⟨by decide, by decide⟩), (show (σ h0 8).toInt ≤ (σ_32 h0 8).toInt from (by rw [k_35]; omega))⟩⟩, (show TP D cA L T r σ_32 ρ_33 t.heap from by rw [ht]; exact hB.1)⟩, hS.F ht⟩) hS.2.2 dX12_isHillHere_15
theorem dX12_isSortHere_0 : decode cX12_isSortHere 0 = .ok (.aload_n 0, 1) := by decide +kernel
theorem dX12_isSortHere_1 : decode cX12_isSortHere 1 = .ok (.getfield 26, 3) := by decide +kernel
theorem dX12_isSortHere_4 : decode cX12_isSortHere 4 = .ok (.iconst 1, 1) := by decide +kernel
theorem dX12_isSortHere_5 : decode cX12_isSortHere 5 = .ok (.iaload, 1) := by decide +kernel
theorem dX12_isSortHere_6 : decode cX12_isSortHere 6 = .ok (.iconst 5, 1) := by decide +kernel
theorem dX12_isSortHere_7 : decode cX12_isSortHere 7 = .ok (.if_icmp .ne 10, 3) := by decide +kernel
theorem dX12_isSortHere_17 : decode cX12_isSortHere 17 = .ok (.aload_n 0, 1) := by decide +kernel
theorem dX12_isSortHere_18 : decode cX12_isSortHere 18 = .ok (.invokevirtual 117, 3) := by decide +kernel
theorem dX12_isSortHere_21 : decode cX12_isSortHere 21 = .ok (.bipush 94, 2) := by decide +kernel
theorem dX12_isSortHere_23 : decode cX12_isSortHere 23 = .ok (.iconst 3, 1) := by decide +kernel
theorem dX12_isSortHere_24 : decode cX12_isSortHere 24 = .ok (.aload_n 0, 1) := by decide +kernel
theorem dX12_isSortHere_25 : decode cX12_isSortHere 25 = .ok (.getfield 26, 3) := by decide +kernel
theorem dX12_isSortHere_28 : decode cX12_isSortHere 28 = .ok (.iconst 1, 1) := by decide +kernel
theorem dX12_isSortHere_29 : decode cX12_isSortHere 29 = .ok (.iaload, 1) := by decide +kernel
theorem dX12_isSortHere_30 : decode cX12_isSortHere 30 = .ok (.imul, 1) := by decide +kernel
theorem dX12_isSortHere_31 : decode cX12_isSortHere 31 = .ok (.iadd, 1) := by decide +kernel
theorem dX12_isSortHere_32 : decode cX12_isSortHere 32 = .ok (.istore_n 2, 1) := by decide +kernel
theorem dX12_isSortHere_33 : decode cX12_isSortHere 33 = .ok (.aload_n 0, 1) := by decide +kernel
theorem dX12_isSortHere_34 : decode cX12_isSortHere 34 = .ok (.iload_n 2, 1) := by decide +kernel
theorem dX12_isSortHere_35 : decode cX12_isSortHere 35 = .ok (.iconst 1, 1) := by decide +kernel
theorem dX12_isSortHere_36 : decode cX12_isSortHere 36 = .ok (.bipush 9, 2) := by decide +kernel
theorem dX12_isSortHere_38 : decode cX12_isSortHere 38 = .ok (.invokevirtual 226, 3) := by decide +kernel
theorem dX12_isSortHere_41 : decode cX12_isSortHere 41 = .ok (.ifCond .eq 29, 3) := by decide +kernel
theorem dX12_isSortHere_70 : decode cX12_isSortHere 70 = .ok (.iconst 0, 1) := by decide +kernel
theorem dX12_isSortHere_71 : decode cX12_isSortHere 71 = .ok (.ireturn, 1) := by decide +kernel
theorem dX12_isSortHere_44 : decode cX12_isSortHere 44 = .ok (.aload_n 0, 1) := by decide +kernel
theorem dX12_isSortHere_45 : decode cX12_isSortHere 45 = .ok (.iload_n 2, 1) := by decide +kernel
theorem dX12_isSortHere_46 : decode cX12_isSortHere 46 = .ok (.iconst 1, 1) := by decide +kernel
theorem dX12_isSortHere_47 : decode cX12_isSortHere 47 = .ok (.iadd, 1) := by decide +kernel
theorem dX12_isSortHere_48 : decode cX12_isSortHere 48 = .ok (.iconst 0, 1) := by decide +kernel
theorem dX12_isSortHere_49 : decode cX12_isSortHere 49 = .ok (.bipush 30, 2) := by decide +kernel
theorem dX12_isSortHere_51 : decode cX12_isSortHere 51 = .ok (.invokevirtual 226, 3) := by decide +kernel
theorem dX12_isSortHere_54 : decode cX12_isSortHere 54 = .ok (.ifCond .eq 16, 3) := by decide +kernel
theorem dX12_isSortHere_57 : decode cX12_isSortHere 57 = .ok (.aload_n 0, 1) := by decide +kernel
theorem dX12_isSortHere_58 : decode cX12_isSortHere 58 = .ok (.iload_n 2, 1) := by decide +kernel
theorem dX12_isSortHere_59 : decode cX12_isSortHere 59 = .ok (.iconst 2, 1) := by decide +kernel
theorem dX12_isSortHere_60 : decode cX12_isSortHere 60 = .ok (.iadd, 1) := by decide +kernel
theorem dX12_isSortHere_61 : decode cX12_isSortHere 61 = .ok (.iconst 1, 1) := by decide +kernel
theorem dX12_isSortHere_62 : decode cX12_isSortHere 62 = .ok (.bipush 30, 2) := by decide +kernel
theorem dX12_isSortHere_64 : decode cX12_isSortHere 64 = .ok (.invokevirtual 226, 3) := by decide +kernel
theorem dX12_isSortHere_67 : decode cX12_isSortHere 67 = .ok (.ifCond .ne 5, 3) := by decide +kernel
theorem dX12_isSortHere_72 : decode cX12_isSortHere 72 = .ok (.aload_n 0, 1) := by decide +kernel
theorem dX12_isSortHere_73 : decode cX12_isSortHere 73 = .ok (.getfield 26, 3) := by decide +kernel
theorem dX12_isSortHere_76 : decode cX12_isSortHere 76 = .ok (.iconst 1, 1) := by decide +kernel
theorem dX12_isSortHere_77 : decode cX12_isSortHere 77 = .ok (.dup2, 1) := by decide +kernel
theorem dX12_isSortHere_78 : decode cX12_isSortHere 78 = .ok (.iaload, 1) := by decide +kernel
theorem dX12_isSortHere_79 : decode cX12_isSortHere 79 = .ok (.iconst 1, 1) := by decide +kernel
theorem dX12_isSortHere_80 : decode cX12_isSortHere 80 = .ok (.iadd, 1) := by decide +kernel
theorem dX12_isSortHere_81 : decode cX12_isSortHere 81 = .ok (.iastore, 1) := by decide +kernel
theorem dX12_isSortHere_82 : decode cX12_isSortHere 82 = .ok (.iconst 1, 1) := by decide +kernel
theorem dX12_isSortHere_83 : decode cX12_isSortHere 83 = .ok (.ireturn, 1) := by decide +kernel
theorem dX12_isSortHere_10 : decode cX12_isSortHere 10 = .ok (.aload_n 0, 1) := by decide +kernel
theorem dX12_isSortHere_11 : decode cX12_isSortHere 11 = .ok (.iconst 4, 1) := by decide +kernel
theorem dX12_isSortHere_12 : decode cX12_isSortHere 12 = .ok (.iload_n 1, 1) := by decide +kernel
theorem dX12_isSortHere_13 : decode cX12_isSortHere 13 = .ok (.invokevirtual 123, 3) := by decide +kernel
theorem dX12_isSortHere_16 : decode cX12_isSortHere 16 = .ok (.ireturn, 1) := by decide +kernel
set_option maxHeartbeats 4000000 in
set_option maxRecDepth 100000 in
theorem cz_X12_isSortHere (l : Launch) (D : va_G) (cA : Nat → ClassId) (L : List Nat) (T : Nat → Nat) (r : Rg) (hG : GR L T r) (hL : L.Nodup) (σ : Sg) (ρ : Lg) (hW : WT L ry T σ) (sz : Nat) (h0 : Nat) (mh0 : h0 ∈ L) (th0 : T h0 = 12) (p1 : Int32) (bt : Nat) (hbt : r h0 0 = some bt) (mbt : bt ∈ L) (tbt : T bt = 61) (bd : Nat) (hbd : r h0 7 = some bd) (mbd : bd ∈ L) (tbd : T bd = 66) (w0 : 0 ≤ p1.toInt) (w1 : p1.toInt ≤ 400) : Met l yX12_isSortHere (.code yX12_isSortHere cX12_isSortHere 3 (some .boolean) :: wsA) ({ frames := 3, cells := 0, slots := 0, locals := 72 }) (PR D cA L T r σ ρ sz [.ref h0, .int p1]) (QI D cA L T r ry [(12, 8), (12, 9), (12, 10), (66, 1000)] σ sz (fun x σ1 => (0 ≤ x.toInt ∧ x.toInt ≤ 1) ∧ ((σ h0 8).toInt ≤ (σ1 h0 8).toInt))) 0 0 (dm L sz) := by
  refine Met.ofW (cc := cX12_isSortHere) (maxL := 3) (ret := (some .boolean)) (by decide) rfl ?_
  intro p e s m args below meth c s₁ B hml hv
  obtain ⟨rfl, hsz, hP, hK, hN⟩ := hv
  have hx := B.exec
  have hb := B.bytes
  have hr := B.returns
  have hts : ∀ w ∈ wsA, w.before _ s = true := fun w h => atoms_spec (ws := .code yX12_isSortHere cX12_isSortHere 3 (some .boolean) :: wsA) B.pre w (List.mem_cons_of_mem _ h)
  have hown : s.vm.findClass RX12 = some m.cls := findClass_of_methodNamed B.named
  subst hsz
  have hLA : LA (dm L s.heap.size) L := ⟨hL, fun a h => Or.inl h⟩
  have hA : ∀ q : Nat, s.heap.size ≤ q → dm L s.heap.size q := fun q h => Or.inr h
  have hS : va_S (dm L s.heap.size) s.heap s.heap [] := va_S.rf
  have hB : TS D cA L T r ry [(12, 8), (12, 9), (12, 10), (66, 1000)] σ σ ρ s.heap := ⟨hP, hW, FR.rf⟩
  have hl := lv_entry ([.ref h0, .int p1]) (n := 3) (Nat.le_of_ble_eq_true rfl)
  rw [lg_entry_eq]
  generalize (lg_sl ([.ref h0, .int p1]) ++ List.replicate (3 - (lg_sl ([.ref h0, .int p1])).length) Slot.unset).toArray = ls at hl ⊢
  have hl : lv_has ls 3 [(0, .ref h0), (1, .int p1)] := hl
  have w_1 : 0 ≤ (σ h0 8).toInt ∧ (σ h0 8).toInt ≤ 400 := by have z := hB.2.1 h0 mh0 8; rw [th0] at z; exact z
  have w_2 : 0 ≤ (σ h0 1).toInt ∧ (σ h0 1).toInt ≤ 400 := by have z := hB.2.1 h0 mh0 1; rw [th0] at z; exact z
  have w_3 : 0 ≤ (σ bd 1).toInt ∧ (σ bd 1).toInt ≤ 5 := by have z := hB.2.1 bd mbd 1; rw [tbd] at z; exact z
  have w_4 : 0 ≤ (σ bd 2).toInt ∧ (σ bd 2).toInt ≤ 8 := by have z := hB.2.1 bd mbd 2; rw [tbd] at z; exact z
  have w_5 : 0 ≤ (σ bd 3).toInt ∧ (σ bd 3).toInt ≤ 4 := by have z := hB.2.1 bd mbd 3; rw [tbd] at z; exact z
  refine lv_aload_n hx hb dX12_isSortHere_0 rfl (lv_at hl 0 rfl) ?_
  refine t_gk hx hb hts hown hK hB mh0 th0 fq_12_7 hbd mw_5_223 dX12_isSortHere_1 ?_
  refine lv_iconst (v := 1) hx hb dX12_isSortHere_4 (by decide) ?_
  refine t_aj hx hb hK hB mbd tbd ai_66 (i_in (by decide) (by decide)) dX12_isSortHere_5 (fun x_6 ex_6 lx_6 ux_6 => ?_)
  have qx_6 : x_6 = (σ bd 1) := ex_6.trans rfl
  have qx_6 := qx_6.symm
  subst qx_6
  refine lv_iconst (v := 5) hx hb dX12_isSortHere_6 (by decide) ?_
  refine lv_icmp_ne (tgt := 17) hx hb dX12_isSortHere_7 (by decide) (fun c_7 => ?_) (fun c_7 => ?_)
  · skip
    have uc_7 := i_ne (n := 5) (by decide) c_7
    refine lv_aload_n hx hb dX12_isSortHere_17 rfl (lv_at hl 0 rfl) ?_
    refine t_cv (va_runV (As := []) (rest := []) ⟨hx, hb, hml, hown, hts⟩ (cz_X12_passWord l D cA L T r hG hLA.1 σ ρ hB.2.1 _ h0 mh0 th0 bt hbt mbt tbt) (cV hts mv_X12_passWord mw_6_169 rfl rfl ⟨Nat.le_of_ble_eq_true rfl, Nat.le_of_ble_eq_true rfl⟩) (pV hB.1 hK hN mh0 th0 (show shp cA 12 _ _ _ = .inr (12, Fs12 _ _ _) from rfl) rfl) rfl rfl hl.1 rfl (lv_room (Nat.le_of_ble_eq_true rfl)) dX12_isSortHere_18 ⟨Nat.le_of_ble_eq_true rfl, Nat.le_of_ble_eq_true rfl⟩) hLA hA hB hS (by decide) (fun σ_8 ρ_9 H locs hB fσ_8 pσ_8 hS => ?_)
    obtain ⟨g_11, g_12⟩ := pσ_8
    have w_13 : 0 ≤ (σ_8 h0 8).toInt ∧ (σ_8 h0 8).toInt ≤ 400 := by have z := hB.2.1 h0 mh0 8; rw [th0] at z; exact z
    have k_14 : σ_8 h0 1 = (σ h0 1) := (FR.at fσ_8 th0 (by decide)).trans rfl
    have cq_15 : (σ_8 h0 1).toInt = (σ h0 1).toInt := congrArg Int32.toInt k_14
    refine lv_bipush (v := 94) hx hb dX12_isSortHere_21 (by decide) ?_
    refine lv_iconst (v := 3) hx hb dX12_isSortHere_23 (by decide) ?_
    refine lv_aload_n hx hb dX12_isSortHere_24 rfl (lv_at hl 0 rfl) ?_
    refine t_gk hx hb hts hown hK hB mh0 th0 fq_12_7 hbd mw_5_223 dX12_isSortHere_25 ?_
    refine lv_iconst (v := 1) hx hb dX12_isSortHere_28 (by decide) ?_
    have k_16 : σ_8 bd 1 = (σ bd 1) := (FR.at fσ_8 tbd (by decide)).trans rfl
    refine t_aj hx hb hK hB mbd tbd ai_66 (i_in (by decide) (by decide)) dX12_isSortHere_29 (fun x_17 ex_17 lx_17 ux_17 => ?_)
    have qx_17 : x_17 = (σ bd 1) := ex_17.trans k_16
    have qx_17 := qx_17.symm
    subst qx_17
    refine lv_imul hx hb dX12_isSortHere_30 ?_
    refine lv_topi (fun x_18 ex_18 => ?_)
    have vx_18 := b_mul (by decide : (3 : Int32).toInt = 3) (rfl : (σ bd 1).toInt = _) ex_18 (by omega) (by omega)
    refine lv_iadd hx hb dX12_isSortHere_31 ?_
    refine lv_topi (fun x_19 ex_19 => ?_)
    have vx_19 := b_add (by decide : (94 : Int32).toInt = 94) (rfl : x_18.toInt = _) ex_19 (by omega) (by omega)
    refine lv_istore_n (lv' := [(2, .int x_19), (0, .ref h0), (1, .int p1)]) hx hb dX12_isSortHere_32 rfl hl (by decide) rfl (fun ls hl => ?_)
    refine lv_aload_n hx hb dX12_isSortHere_33 rfl (lv_at hl 1 rfl) ?_
    refine lv_iload_n hx hb dX12_isSortHere_34 rfl (lv_at hl 0 rfl) ?_
    refine lv_iconst (v := 1) hx hb dX12_isSortHere_35 (by decide) ?_
    refine lv_bipush (v := 9) hx hb dX12_isSortHere_36 (by decide) ?_
    have k_20 : σ_8 bd 2 = (σ bd 2) := (FR.at fσ_8 tbd (by decide)).trans rfl
    have k_21 : σ_8 bd 3 = (σ bd 3) := (FR.at fσ_8 tbd (by decide)).trans rfl
    refine t_ci (va_runV (As := [.int x_19, .int 1, .int 9]) (rest := []) ⟨hx, hb, hml, hown, hts⟩ (cz_X12_cellHere l D cA L T r hG hLA.1 σ_8 ρ_9 hB.2.1 _ h0 mh0 th0 x_19 1 9 bt hbt mbt tbt bd hbd mbd tbd (by first | omega | decide) (by first | omega | decide) (by rw [sbF (by have hn : (x_19 : Int32).toNatClampNeg = x_19.toInt.toNat := rfl; omega)]; exact i_lo _) (by rw [sbF (by have hn : (x_19 : Int32).toNatClampNeg = x_19.toInt.toNat := rfl; omega)]; exact i_hi _)) (cV hts mv_X12_cellHere mw_6_173 rfl rfl ⟨Nat.le_of_ble_eq_true rfl, Nat.le_of_ble_eq_true rfl⟩) (pV hB.1 hK hN mh0 th0 (show shp cA 12 _ _ _ = .inr (12, Fs12 _ _ _) from rfl) rfl) rfl rfl hl.1 rfl (lv_room (Nat.le_of_ble_eq_true rfl)) dX12_isSortHere_38 ⟨Nat.le_of_ble_eq_true rfl, Nat.le_of_ble_eq_true rfl⟩) hLA hA hB hS (by decide) (fun x_24 σ_22 ρ_23 H locs hB fσ_22 pσ_22 hS => ?_)
    obtain ⟨g_25, g_26, g_27⟩ := pσ_22
    have w_28 : 0 ≤ (σ_22 h0 8).toInt ∧ (σ_22 h0 8).toInt ≤ 400 := by have z := hB.2.1 h0 mh0 8; rw [th0] at z; exact z
    have k_29 : σ_22 bd 1 = (σ bd 1) := (g_27 1 (by have hn : (x_19 : Int32).toNatClampNeg = x_19.toInt.toNat := rfl; omega)).trans k_16
    have k_30 : σ_22 bd 2 = (σ bd 2) := (g_27 2 (by have hn : (x_19 : Int32).toNatClampNeg = x_19.toInt.toNat := rfl; omega)).trans k_20
    have k_31 : σ_22 bd 3 = (σ bd 3) := (g_27 3 (by have hn : (x_19 : Int32).toNatClampNeg = x_19.toInt.toNat := rfl; omega)).trans k_21
    obtain ⟨lx_24, ux_24⟩ := g_25
    have k_32 : σ_22 h0 1 = (σ h0 1) := (FR.at fσ_22 th0 (by decide)).trans k_14
    have cq_33 : (σ_22 h0 1).toInt = (σ h0 1).toInt := congrArg Int32.toInt k_32
    refine lv_if_eq (tgt := 70) hx hb dX12_isSortHere_41 (by decide) (fun c_34 => ?_) (fun c_34 => ?_)
    · skip
      have uc_34 := i_eq (n := 0) (by decide) c_34
      refine lv_iconst (v := 0) hx hb dX12_isSortHere_70 (by decide) ?_
      exact W.zret (v := 0) hx hb hr rfl (fun t ht hW => ⟨⟨0, (σ_22, ρ_23), rfl, ⟨hB.2.1, hB.2.2, ⟨(show 0 ≤ (0 : Int32).toInt ∧ (0 : Int32).toInt ≤ 1 from ⟨by decide, by decide⟩), (show (σ h0 8).toInt ≤ (σ_22 h0 8).toInt from (by omega))⟩⟩, (show TP D cA L T r σ_22 ρ_23 t.heap from by rw [ht]; exact hB.1)⟩, hS.F ht⟩) hS.2.2 dX12_isSortHere_71
    · skip
      have uc_34 := i_ne (n := 0) (by decide) c_34
      refine lv_aload_n hx hb dX12_isSortHere_44 rfl (lv_at hl 1 rfl) ?_
      refine lv_iload_n hx hb dX12_isSortHere_45 rfl (lv_at hl 0 rfl) ?_
      refine lv_iconst (v := 1) hx hb dX12_isSortHere_46 (by decide) ?_
      refine lv_iadd hx hb dX12_isSortHere_47 ?_
      refine lv_topi (fun x_35 ex_35 => ?_)
      have vx_35 := b_add (rfl : x_19.toInt = _) (by decide : (1 : Int32).toInt = 1) ex_35 (by omega) (by omega)
      refine lv_iconst (v := 0) hx hb dX12_isSortHere_48 (by decide) ?_
      refine lv_bipush (v := 30) hx hb dX12_isSortHere_49 (by decide) ?_
      refine t_ci (va_runV (As := [.int x_35, .int 0, .int 30]) (rest := []) ⟨hx, hb, hml, hown, hts⟩ (cz_X12_cellHere l D cA L T r hG hLA.1 σ_22 ρ_23 hB.2.1 _ h0 mh0 th0 x_35 0 30 bt hbt mbt tbt bd hbd mbd tbd (by first | omega | decide) (by first | omega | decide) (by rw [sbF (by have hn : (x_35 : Int32).toNatClampNeg = x_35.toInt.toNat := rfl; omega)]; exact i_lo _) (by rw [sbF (by have hn : (x_35 : Int32).toNatClampNeg = x_35.toInt.toNat := rfl; omega)]; exact i_hi _)) (cV hts mv_X12_cellHere mw_6_173 rfl rfl ⟨Nat.le_of_ble_eq_true rfl, Nat.le_of_ble_eq_true rfl⟩) (pV hB.1 hK hN mh0 th0 (show shp cA 12 _ _ _ = .inr (12, Fs12 _ _ _) from rfl) rfl) rfl rfl hl.1 rfl (lv_room (Nat.le_of_ble_eq_true rfl)) dX12_isSortHere_51 ⟨Nat.le_of_ble_eq_true rfl, Nat.le_of_ble_eq_true rfl⟩) hLA hA hB hS (by decide) (fun x_38 σ_36 ρ_37 H locs hB fσ_36 pσ_36 hS => ?_)
      obtain ⟨g_39, g_40, g_41⟩ := pσ_36
      have w_42 : 0 ≤ (σ_36 h0 8).toInt ∧ (σ_36 h0 8).toInt ≤ 400 := by have z := hB.2.1 h0 mh0 8; rw [th0] at z; exact z
      have k_43 : σ_36 bd 1 = (σ bd 1) := (g_41 1 (by have hn : (x_35 : Int32).toNatClampNeg = x_35.toInt.toNat := rfl; omega)).trans k_29
      have k_44 : σ_36 bd 2 = (σ bd 2) := (g_41 2 (by have hn : (x_35 : Int32).toNatClampNeg = x_35.toInt.toNat := rfl; omega)).trans k_30
      have k_45 : σ_36 bd 3 = (σ bd 3) := (g_41 3 (by have hn : (x_35 : Int32).toNatClampNeg = x_35.toInt.toNat := rfl; omega)).trans k_31
      obtain ⟨lx_38, ux_38⟩ := g_39
      have k_46 : σ_36 h0 1 = (σ h0 1) := (FR.at fσ_36 th0 (by decide)).trans k_32
      have cq_47 : (σ_36 h0 1).toInt = (σ h0 1).toInt := congrArg Int32.toInt k_46
      refine lv_if_eq (tgt := 70) hx hb dX12_isSortHere_54 (by decide) (fun c_48 => ?_) (fun c_48 => ?_)
      · skip
        have uc_48 := i_eq (n := 0) (by decide) c_48
        refine lv_iconst (v := 0) hx hb dX12_isSortHere_70 (by decide) ?_
        exact W.zret (v := 0) hx hb hr rfl (fun t ht hW => ⟨⟨0, (σ_36, ρ_37), rfl, ⟨hB.2.1, hB.2.2, ⟨(show 0 ≤ (0 : Int32).toInt ∧ (0 : Int32).toInt ≤ 1 from ⟨by decide, by decide⟩), (show (σ h0 8).toInt ≤ (σ_36 h0 8).toInt from (by omega))⟩⟩, (show TP D cA L T r σ_36 ρ_37 t.heap from by rw [ht]; exact hB.1)⟩, hS.F ht⟩) hS.2.2 dX12_isSortHere_71
      · skip
        have uc_48 := i_ne (n := 0) (by decide) c_48
        refine lv_aload_n hx hb dX12_isSortHere_57 rfl (lv_at hl 1 rfl) ?_
        refine lv_iload_n hx hb dX12_isSortHere_58 rfl (lv_at hl 0 rfl) ?_
        refine lv_iconst (v := 2) hx hb dX12_isSortHere_59 (by decide) ?_
        refine lv_iadd hx hb dX12_isSortHere_60 ?_
        refine lv_topi (fun x_49 ex_49 => ?_)
        have vx_49 := b_add (rfl : x_19.toInt = _) (by decide : (2 : Int32).toInt = 2) ex_49 (by omega) (by omega)
        refine lv_iconst (v := 1) hx hb dX12_isSortHere_61 (by decide) ?_
        refine lv_bipush (v := 30) hx hb dX12_isSortHere_62 (by decide) ?_
        refine t_ci (va_runV (As := [.int x_49, .int 1, .int 30]) (rest := []) ⟨hx, hb, hml, hown, hts⟩ (cz_X12_cellHere l D cA L T r hG hLA.1 σ_36 ρ_37 hB.2.1 _ h0 mh0 th0 x_49 1 30 bt hbt mbt tbt bd hbd mbd tbd (by first | omega | decide) (by first | omega | decide) (by rw [sbF (by have hn : (x_49 : Int32).toNatClampNeg = x_49.toInt.toNat := rfl; omega)]; exact i_lo _) (by rw [sbF (by have hn : (x_49 : Int32).toNatClampNeg = x_49.toInt.toNat := rfl; omega)]; exact i_hi _)) (cV hts mv_X12_cellHere mw_6_173 rfl rfl ⟨Nat.le_of_ble_eq_true rfl, Nat.le_of_ble_eq_true rfl⟩) (pV hB.1 hK hN mh0 th0 (show shp cA 12 _ _ _ = .inr (12, Fs12 _ _ _) from rfl) rfl) rfl rfl hl.1 rfl (lv_room (Nat.le_of_ble_eq_true rfl)) dX12_isSortHere_64 ⟨Nat.le_of_ble_eq_true rfl, Nat.le_of_ble_eq_true rfl⟩) hLA hA hB hS (by decide) (fun x_52 σ_50 ρ_51 H locs hB fσ_50 pσ_50 hS => ?_)
        obtain ⟨g_53, g_54, g_55⟩ := pσ_50
        have w_56 : 0 ≤ (σ_50 h0 8).toInt ∧ (σ_50 h0 8).toInt ≤ 400 := by have z := hB.2.1 h0 mh0 8; rw [th0] at z; exact z
        have k_57 : σ_50 bd 1 = (σ bd 1) := (g_55 1 (by have hn : (x_49 : Int32).toNatClampNeg = x_49.toInt.toNat := rfl; omega)).trans k_43
        have k_58 : σ_50 bd 2 = (σ bd 2) := (g_55 2 (by have hn : (x_49 : Int32).toNatClampNeg = x_49.toInt.toNat := rfl; omega)).trans k_44
        have k_59 : σ_50 bd 3 = (σ bd 3) := (g_55 3 (by have hn : (x_49 : Int32).toNatClampNeg = x_49.toInt.toNat := rfl; omega)).trans k_45
        obtain ⟨lx_52, ux_52⟩ := g_53
        have k_60 : σ_50 h0 1 = (σ h0 1) := (FR.at fσ_50 th0 (by decide)).trans k_46
        have cq_61 : (σ_50 h0 1).toInt = (σ h0 1).toInt := congrArg Int32.toInt k_60
        refine lv_if_ne (tgt := 72) hx hb dX12_isSortHere_67 (by decide) (fun c_62 => ?_) (fun c_62 => ?_)
        · skip
          have uc_62 := i_ne (n := 0) (by decide) c_62
          refine lv_aload_n hx hb dX12_isSortHere_72 rfl (lv_at hl 1 rfl) ?_
          refine t_gk hx hb hts hown hK hB mh0 th0 fq_12_7 hbd mw_5_223 dX12_isSortHere_73 ?_
          refine lv_iconst (v := 1) hx hb dX12_isSortHere_76 (by decide) ?_
          refine lv_dup2_11 hx hb dX12_isSortHere_77 rfl rfl ?_
          refine t_aj hx hb hK hB mbd tbd ai_66 (i_in (by decide) (by decide)) dX12_isSortHere_78 (fun x_63 ex_63 lx_63 ux_63 => ?_)
          have qx_63 : x_63 = (σ bd 1) := ex_63.trans k_57
          have qx_63 := qx_63.symm
          subst qx_63
          refine lv_iconst (v := 1) hx hb dX12_isSortHere_79 (by decide) ?_
          refine lv_iadd hx hb dX12_isSortHere_80 ?_
          refine lv_topi (fun x_64 ex_64 => ?_)
          have vx_64 := b_add (rfl : (σ bd 1).toInt = _) (by decide : (1 : Int32).toInt = 1) ex_64 (by omega) (by omega)
          refine t_si hx hb hK hLA hB hS mbd tbd ai_66 (i_in (by decide) (by decide)) (show (0 : Int) ≤ x_64.toInt by omega) (show x_64.toInt ≤ (5 : Int) by omega) (Or.inr (by decide)) dX12_isSortHere_81 (fun H locs σ_65 eσ_65 hB hS => ?_)
          have k_66 : σ_65 bd 1 = x_64 := by rw [eσ_65]; exact up2_same _ _ _ _
          refine lv_iconst (v := 1) hx hb dX12_isSortHere_82 (by decide) ?_
          have k_67 : σ_65 h0 8 = (σ_50 h0 8) := by rw [eσ_65, up2_nej _ _ (by decide)]
          exact W.zret (v := 1) hx hb hr rfl (fun t ht hW => ⟨⟨1, (σ_65, ρ_51), rfl, ⟨hB.2.1, hB.2.2, ⟨(show 0 ≤ (1 : Int32).toInt ∧ (1 : Int32).toInt ≤ 1 from ⟨by decide, by decide⟩), (show (σ h0 8).toInt ≤ (σ_65 h0 8).toInt from (by rw [k_67]; omega))⟩⟩, (show TP D cA L T r σ_65 ρ_51 t.heap from by rw [ht]; exact hB.1)⟩, hS.F ht⟩) hS.2.2 dX12_isSortHere_83
        · skip
          have uc_62 := i_eq (n := 0) (by decide) c_62
          refine lv_iconst (v := 0) hx hb dX12_isSortHere_70 (by decide) ?_
          exact W.zret (v := 0) hx hb hr rfl (fun t ht hW => ⟨⟨0, (σ_50, ρ_51), rfl, ⟨hB.2.1, hB.2.2, ⟨(show 0 ≤ (0 : Int32).toInt ∧ (0 : Int32).toInt ≤ 1 from ⟨by decide, by decide⟩), (show (σ h0 8).toInt ≤ (σ_50 h0 8).toInt from (by omega))⟩⟩, (show TP D cA L T r σ_50 ρ_51 t.heap from by rw [ht]; exact hB.1)⟩, hS.F ht⟩) hS.2.2 dX12_isSortHere_71
  · skip
    have uc_7 := i_eq (n := 5) (by decide) c_7
    refine lv_aload_n hx hb dX12_isSortHere_10 rfl (lv_at hl 0 rfl) ?_
    refine lv_iconst (v := 4) hx hb dX12_isSortHere_11 (by decide) ?_
    refine lv_iload_n hx hb dX12_isSortHere_12 rfl (lv_at hl 1 rfl) ?_
    refine t_ci (va_runV (As := [.int 4, .int p1]) (rest := []) ⟨hx, hb, hml, hown, hts⟩ (cy_X12_fails l D cA L T r hG hLA.1 σ ρ hB.2.1 _ h0 mh0 th0 4 p1 (by first | omega | decide) (by first | omega | decide) (by first | omega | decide) (by first | omega | decide)) (cV hts mv_X12_fails mw_6_157 rfl rfl ⟨Nat.le_of_ble_eq_true rfl, Nat.le_of_ble_eq_true rfl⟩) (pV hB.1 hK hN mh0 th0 (show shp cA 12 _ _ _ = .inr (12, Fs12 _ _ _) from rfl) rfl) rfl rfl hl.1 rfl (lv_room (Nat.le_of_ble_eq_true rfl)) dX12_isSortHere_13 ⟨Nat.le_of_ble_eq_true rfl, Nat.le_of_ble_eq_true rfl⟩) hLA hA hB hS (by decide) (fun x_70 σ_68 ρ_69 H locs hB fσ_68 pσ_68 hS => ?_)
    subst pσ_68
    have k_71 : σ_68 h0 8 = (σ h0 8) := (FR.at fσ_68 th0 (by decide)).trans rfl
    have cq_72 : (σ_68 h0 8).toInt = (σ h0 8).toInt := congrArg Int32.toInt k_71
    have k_73 : σ_68 h0 1 = (σ h0 1) := (FR.at fσ_68 th0 (by decide)).trans rfl
    have cq_74 : (σ_68 h0 1).toInt = (σ h0 1).toInt := congrArg Int32.toInt k_73
    exact W.zret (v := 0) hx hb hr rfl (fun t ht hW => ⟨⟨0, (σ_68, ρ_69), rfl, ⟨hB.2.1, hB.2.2, ⟨(show 0 ≤ (0 : Int32).toInt ∧ (0 : Int32).toInt ≤ 1 from ⟨by decide, by decide⟩), (show (σ h0 8).toInt ≤ (σ_68 h0 8).toInt from (by rw [k_71]; omega))⟩⟩, (show TP D cA L T r σ_68 ρ_69 t.heap from by rw [ht]; exact hB.1)⟩, hS.F ht⟩) hS.2.2 dX12_isSortHere_16
theorem dX12_isBendHere_0 : decode cX12_isBendHere 0 = .ok (.aload_n 0, 1) := by decide +kernel
theorem dX12_isBendHere_1 : decode cX12_isBendHere 1 = .ok (.getfield 26, 3) := by decide +kernel
theorem dX12_isBendHere_4 : decode cX12_isBendHere 4 = .ok (.iconst 2, 1) := by decide +kernel
theorem dX12_isBendHere_5 : decode cX12_isBendHere 5 = .ok (.iaload, 1) := by decide +kernel
theorem dX12_isBendHere_6 : decode cX12_isBendHere 6 = .ok (.bipush 8, 2) := by decide +kernel
theorem dX12_isBendHere_8 : decode cX12_isBendHere 8 = .ok (.if_icmp .ne 10, 3) := by decide +kernel
theorem dX12_isBendHere_18 : decode cX12_isBendHere 18 = .ok (.aload_n 0, 1) := by decide +kernel
theorem dX12_isBendHere_19 : decode cX12_isBendHere 19 = .ok (.invokevirtual 117, 3) := by decide +kernel
theorem dX12_isBendHere_22 : decode cX12_isBendHere 22 = .ok (.bipush 109, 2) := by decide +kernel
theorem dX12_isBendHere_24 : decode cX12_isBendHere 24 = .ok (.iconst 2, 1) := by decide +kernel
theorem dX12_isBendHere_25 : decode cX12_isBendHere 25 = .ok (.aload_n 0, 1) := by decide +kernel
theorem dX12_isBendHere_26 : decode cX12_isBendHere 26 = .ok (.getfield 26, 3) := by decide +kernel
theorem dX12_isBendHere_29 : decode cX12_isBendHere 29 = .ok (.iconst 2, 1) := by decide +kernel
theorem dX12_isBendHere_30 : decode cX12_isBendHere 30 = .ok (.iaload, 1) := by decide +kernel
theorem dX12_isBendHere_31 : decode cX12_isBendHere 31 = .ok (.imul, 1) := by decide +kernel
theorem dX12_isBendHere_32 : decode cX12_isBendHere 32 = .ok (.iadd, 1) := by decide +kernel
theorem dX12_isBendHere_33 : decode cX12_isBendHere 33 = .ok (.istore_n 2, 1) := by decide +kernel
theorem dX12_isBendHere_34 : decode cX12_isBendHere 34 = .ok (.aload_n 0, 1) := by decide +kernel
theorem dX12_isBendHere_35 : decode cX12_isBendHere 35 = .ok (.iload_n 2, 1) := by decide +kernel
theorem dX12_isBendHere_36 : decode cX12_isBendHere 36 = .ok (.iconst 0, 1) := by decide +kernel
theorem dX12_isBendHere_37 : decode cX12_isBendHere 37 = .ok (.aload_n 0, 1) := by decide +kernel
theorem dX12_isBendHere_38 : decode cX12_isBendHere 38 = .ok (.getfield 26, 3) := by decide +kernel
theorem dX12_isBendHere_41 : decode cX12_isBendHere 41 = .ok (.iconst 1, 1) := by decide +kernel
theorem dX12_isBendHere_42 : decode cX12_isBendHere 42 = .ok (.iaload, 1) := by decide +kernel
theorem dX12_isBendHere_43 : decode cX12_isBendHere 43 = .ok (.iconst 1, 1) := by decide +kernel
theorem dX12_isBendHere_44 : decode cX12_isBendHere 44 = .ok (.isub, 1) := by decide +kernel
theorem dX12_isBendHere_45 : decode cX12_isBendHere 45 = .ok (.invokevirtual 226, 3) := by decide +kernel
theorem dX12_isBendHere_48 : decode cX12_isBendHere 48 = .ok (.ifCond .eq 22, 3) := by decide +kernel
theorem dX12_isBendHere_70 : decode cX12_isBendHere 70 = .ok (.iconst 0, 1) := by decide +kernel
theorem dX12_isBendHere_71 : decode cX12_isBendHere 71 = .ok (.ireturn, 1) := by decide +kernel
theorem dX12_isBendHere_51 : decode cX12_isBendHere 51 = .ok (.aload_n 0, 1) := by decide +kernel
theorem dX12_isBendHere_52 : decode cX12_isBendHere 52 = .ok (.iload_n 2, 1) := by decide +kernel
theorem dX12_isBendHere_53 : decode cX12_isBendHere 53 = .ok (.iconst 1, 1) := by decide +kernel
theorem dX12_isBendHere_54 : decode cX12_isBendHere 54 = .ok (.iadd, 1) := by decide +kernel
theorem dX12_isBendHere_55 : decode cX12_isBendHere 55 = .ok (.iconst 0, 1) := by decide +kernel
theorem dX12_isBendHere_56 : decode cX12_isBendHere 56 = .ok (.aload_n 0, 1) := by decide +kernel
theorem dX12_isBendHere_57 : decode cX12_isBendHere 57 = .ok (.getfield 26, 3) := by decide +kernel
theorem dX12_isBendHere_60 : decode cX12_isBendHere 60 = .ok (.iconst 1, 1) := by decide +kernel
theorem dX12_isBendHere_61 : decode cX12_isBendHere 61 = .ok (.iaload, 1) := by decide +kernel
theorem dX12_isBendHere_62 : decode cX12_isBendHere 62 = .ok (.iconst 1, 1) := by decide +kernel
theorem dX12_isBendHere_63 : decode cX12_isBendHere 63 = .ok (.isub, 1) := by decide +kernel
theorem dX12_isBendHere_64 : decode cX12_isBendHere 64 = .ok (.invokevirtual 226, 3) := by decide +kernel
theorem dX12_isBendHere_67 : decode cX12_isBendHere 67 = .ok (.ifCond .ne 5, 3) := by decide +kernel
theorem dX12_isBendHere_72 : decode cX12_isBendHere 72 = .ok (.aload_n 0, 1) := by decide +kernel
theorem dX12_isBendHere_73 : decode cX12_isBendHere 73 = .ok (.getfield 26, 3) := by decide +kernel
theorem dX12_isBendHere_76 : decode cX12_isBendHere 76 = .ok (.iconst 2, 1) := by decide +kernel
theorem dX12_isBendHere_77 : decode cX12_isBendHere 77 = .ok (.dup2, 1) := by decide +kernel
theorem dX12_isBendHere_78 : decode cX12_isBendHere 78 = .ok (.iaload, 1) := by decide +kernel
theorem dX12_isBendHere_79 : decode cX12_isBendHere 79 = .ok (.iconst 1, 1) := by decide +kernel
theorem dX12_isBendHere_80 : decode cX12_isBendHere 80 = .ok (.iadd, 1) := by decide +kernel
theorem dX12_isBendHere_81 : decode cX12_isBendHere 81 = .ok (.iastore, 1) := by decide +kernel
theorem dX12_isBendHere_82 : decode cX12_isBendHere 82 = .ok (.iconst 1, 1) := by decide +kernel
theorem dX12_isBendHere_83 : decode cX12_isBendHere 83 = .ok (.ireturn, 1) := by decide +kernel
theorem dX12_isBendHere_11 : decode cX12_isBendHere 11 = .ok (.aload_n 0, 1) := by decide +kernel
theorem dX12_isBendHere_12 : decode cX12_isBendHere 12 = .ok (.iconst 4, 1) := by decide +kernel
theorem dX12_isBendHere_13 : decode cX12_isBendHere 13 = .ok (.iload_n 1, 1) := by decide +kernel
theorem dX12_isBendHere_14 : decode cX12_isBendHere 14 = .ok (.invokevirtual 123, 3) := by decide +kernel
theorem dX12_isBendHere_17 : decode cX12_isBendHere 17 = .ok (.ireturn, 1) := by decide +kernel
set_option maxHeartbeats 4000000 in
set_option maxRecDepth 100000 in
theorem cz_X12_isBendHere (l : Launch) (D : va_G) (cA : Nat → ClassId) (L : List Nat) (T : Nat → Nat) (r : Rg) (hG : GR L T r) (hL : L.Nodup) (σ : Sg) (ρ : Lg) (hW : WT L ry T σ) (sz : Nat) (h0 : Nat) (mh0 : h0 ∈ L) (th0 : T h0 = 12) (p1 : Int32) (bt : Nat) (hbt : r h0 0 = some bt) (mbt : bt ∈ L) (tbt : T bt = 61) (bd : Nat) (hbd : r h0 7 = some bd) (mbd : bd ∈ L) (tbd : T bd = 66) (w0 : 0 ≤ p1.toInt) (w1 : p1.toInt ≤ 400) : Met l yX12_isBendHere (.code yX12_isBendHere cX12_isBendHere 3 (some .boolean) :: wsA) ({ frames := 3, cells := 0, slots := 0, locals := 72 }) (PR D cA L T r σ ρ sz [.ref h0, .int p1]) (QI D cA L T r ry [(12, 8), (12, 9), (12, 10), (66, 1000)] σ sz (fun x σ1 => (0 ≤ x.toInt ∧ x.toInt ≤ 1) ∧ ((σ h0 8).toInt ≤ (σ1 h0 8).toInt))) 0 0 (dm L sz) := by
  refine Met.ofW (cc := cX12_isBendHere) (maxL := 3) (ret := (some .boolean)) (by decide) rfl ?_
  intro p e s m args below meth c s₁ B hml hv
  obtain ⟨rfl, hsz, hP, hK, hN⟩ := hv
  have hx := B.exec
  have hb := B.bytes
  have hr := B.returns
  have hts : ∀ w ∈ wsA, w.before _ s = true := fun w h => atoms_spec (ws := .code yX12_isBendHere cX12_isBendHere 3 (some .boolean) :: wsA) B.pre w (List.mem_cons_of_mem _ h)
  have hown : s.vm.findClass RX12 = some m.cls := findClass_of_methodNamed B.named
  subst hsz
  have hLA : LA (dm L s.heap.size) L := ⟨hL, fun a h => Or.inl h⟩
  have hA : ∀ q : Nat, s.heap.size ≤ q → dm L s.heap.size q := fun q h => Or.inr h
  have hS : va_S (dm L s.heap.size) s.heap s.heap [] := va_S.rf
  have hB : TS D cA L T r ry [(12, 8), (12, 9), (12, 10), (66, 1000)] σ σ ρ s.heap := ⟨hP, hW, FR.rf⟩
  have hl := lv_entry ([.ref h0, .int p1]) (n := 3) (Nat.le_of_ble_eq_true rfl)
  rw [lg_entry_eq]
  generalize (lg_sl ([.ref h0, .int p1]) ++ List.replicate (3 - (lg_sl ([.ref h0, .int p1])).length) Slot.unset).toArray = ls at hl ⊢
  have hl : lv_has ls 3 [(0, .ref h0), (1, .int p1)] := hl
  have w_1 : 0 ≤ (σ h0 8).toInt ∧ (σ h0 8).toInt ≤ 400 := by have z := hB.2.1 h0 mh0 8; rw [th0] at z; exact z
  have w_2 : 0 ≤ (σ h0 1).toInt ∧ (σ h0 1).toInt ≤ 400 := by have z := hB.2.1 h0 mh0 1; rw [th0] at z; exact z
  have z0 : (0 : Int32).toInt = 0 := by decide
  have w_3 : 0 ≤ (σ bd 1).toInt ∧ (σ bd 1).toInt ≤ 5 := by have z := hB.2.1 bd mbd 1; rw [tbd] at z; exact z
  have w_4 : 0 ≤ (σ bd 2).toInt ∧ (σ bd 2).toInt ≤ 8 := by have z := hB.2.1 bd mbd 2; rw [tbd] at z; exact z
  have w_5 : 0 ≤ (σ bd 3).toInt ∧ (σ bd 3).toInt ≤ 4 := by have z := hB.2.1 bd mbd 3; rw [tbd] at z; exact z
  refine lv_aload_n hx hb dX12_isBendHere_0 rfl (lv_at hl 0 rfl) ?_
  refine t_gk hx hb hts hown hK hB mh0 th0 fq_12_7 hbd mw_5_223 dX12_isBendHere_1 ?_
  refine lv_iconst (v := 2) hx hb dX12_isBendHere_4 (by decide) ?_
  refine t_aj hx hb hK hB mbd tbd ai_66 (i_in (by decide) (by decide)) dX12_isBendHere_5 (fun x_6 ex_6 lx_6 ux_6 => ?_)
  have qx_6 : x_6 = (σ bd 2) := ex_6.trans rfl
  have qx_6 := qx_6.symm
  subst qx_6
  refine lv_bipush (v := 8) hx hb dX12_isBendHere_6 (by decide) ?_
  refine lv_icmp_ne (tgt := 18) hx hb dX12_isBendHere_8 (by decide) (fun c_7 => ?_) (fun c_7 => ?_)
  · skip
    have uc_7 := i_ne (n := 8) (by decide) c_7
    refine lv_aload_n hx hb dX12_isBendHere_18 rfl (lv_at hl 0 rfl) ?_
    refine t_cv (va_runV (As := []) (rest := []) ⟨hx, hb, hml, hown, hts⟩ (cz_X12_passWord l D cA L T r hG hLA.1 σ ρ hB.2.1 _ h0 mh0 th0 bt hbt mbt tbt) (cV hts mv_X12_passWord mw_6_169 rfl rfl ⟨Nat.le_of_ble_eq_true rfl, Nat.le_of_ble_eq_true rfl⟩) (pV hB.1 hK hN mh0 th0 (show shp cA 12 _ _ _ = .inr (12, Fs12 _ _ _) from rfl) rfl) rfl rfl hl.1 rfl (lv_room (Nat.le_of_ble_eq_true rfl)) dX12_isBendHere_19 ⟨Nat.le_of_ble_eq_true rfl, Nat.le_of_ble_eq_true rfl⟩) hLA hA hB hS (by decide) (fun σ_8 ρ_9 H locs hB fσ_8 pσ_8 hS => ?_)
    obtain ⟨g_11, g_12⟩ := pσ_8
    have w_13 : 0 ≤ (σ_8 h0 8).toInt ∧ (σ_8 h0 8).toInt ≤ 400 := by have z := hB.2.1 h0 mh0 8; rw [th0] at z; exact z
    have k_14 : σ_8 h0 1 = (σ h0 1) := (FR.at fσ_8 th0 (by decide)).trans rfl
    have cq_15 : (σ_8 h0 1).toInt = (σ h0 1).toInt := congrArg Int32.toInt k_14
    refine lv_bipush (v := 109) hx hb dX12_isBendHere_22 (by decide) ?_
    refine lv_iconst (v := 2) hx hb dX12_isBendHere_24 (by decide) ?_
    refine lv_aload_n hx hb dX12_isBendHere_25 rfl (lv_at hl 0 rfl) ?_
    refine t_gk hx hb hts hown hK hB mh0 th0 fq_12_7 hbd mw_5_223 dX12_isBendHere_26 ?_
    refine lv_iconst (v := 2) hx hb dX12_isBendHere_29 (by decide) ?_
    have k_16 : σ_8 bd 2 = (σ bd 2) := (FR.at fσ_8 tbd (by decide)).trans rfl
    refine t_aj hx hb hK hB mbd tbd ai_66 (i_in (by decide) (by decide)) dX12_isBendHere_30 (fun x_17 ex_17 lx_17 ux_17 => ?_)
    have qx_17 : x_17 = (σ bd 2) := ex_17.trans k_16
    have qx_17 := qx_17.symm
    subst qx_17
    refine lv_imul hx hb dX12_isBendHere_31 ?_
    refine lv_topi (fun x_18 ex_18 => ?_)
    have vx_18 := b_mul (by decide : (2 : Int32).toInt = 2) (rfl : (σ bd 2).toInt = _) ex_18 (by omega) (by omega)
    refine lv_iadd hx hb dX12_isBendHere_32 ?_
    refine lv_topi (fun x_19 ex_19 => ?_)
    have vx_19 := b_add (by decide : (109 : Int32).toInt = 109) (rfl : x_18.toInt = _) ex_19 (by omega) (by omega)
    refine lv_istore_n (lv' := [(2, .int x_19), (0, .ref h0), (1, .int p1)]) hx hb dX12_isBendHere_33 rfl hl (by decide) rfl (fun ls hl => ?_)
    refine lv_aload_n hx hb dX12_isBendHere_34 rfl (lv_at hl 1 rfl) ?_
    refine lv_iload_n hx hb dX12_isBendHere_35 rfl (lv_at hl 0 rfl) ?_
    refine lv_iconst (v := 0) hx hb dX12_isBendHere_36 (by decide) ?_
    refine lv_aload_n hx hb dX12_isBendHere_37 rfl (lv_at hl 1 rfl) ?_
    refine t_gk hx hb hts hown hK hB mh0 th0 fq_12_7 hbd mw_5_223 dX12_isBendHere_38 ?_
    refine lv_iconst (v := 1) hx hb dX12_isBendHere_41 (by decide) ?_
    have k_20 : σ_8 bd 1 = (σ bd 1) := (FR.at fσ_8 tbd (by decide)).trans rfl
    refine t_aj hx hb hK hB mbd tbd ai_66 (i_in (by decide) (by decide)) dX12_isBendHere_42 (fun x_21 ex_21 lx_21 ux_21 => ?_)
    have qx_21 : x_21 = (σ bd 1) := ex_21.trans k_20
    have qx_21 := qx_21.symm
    subst qx_21
    refine lv_iconst (v := 1) hx hb dX12_isBendHere_43 (by decide) ?_
    refine lv_isub hx hb dX12_isBendHere_44 ?_
    refine lv_topi (fun x_22 ex_22 => ?_)
    have vx_22 := b_sub (rfl : (σ bd 1).toInt = _) (by decide : (1 : Int32).toInt = 1) ex_22 (by omega) (by omega)
    have k_23 : σ_8 bd 3 = (σ bd 3) := (FR.at fσ_8 tbd (by decide)).trans rfl
    refine t_ci (va_runV (As := [.int x_19, .int 0, .int x_22]) (rest := []) ⟨hx, hb, hml, hown, hts⟩ (cz_X12_cellHere l D cA L T r hG hLA.1 σ_8 ρ_9 hB.2.1 _ h0 mh0 th0 x_19 0 x_22 bt hbt mbt tbt bd hbd mbd tbd (by first | omega | decide) (by first | omega | decide) (by rw [sbB (by have hn : (x_19 : Int32).toNatClampNeg = x_19.toInt.toNat := rfl; omega) (by have hn : (x_19 : Int32).toNatClampNeg = x_19.toInt.toNat := rfl; omega)]; show (0 : Int) ≤ _; omega) (by rw [sbB (by have hn : (x_19 : Int32).toNatClampNeg = x_19.toInt.toNat := rfl; omega) (by have hn : (x_19 : Int32).toNatClampNeg = x_19.toInt.toNat := rfl; omega)]; show _ ≤ (4 : Int); omega)) (cV hts mv_X12_cellHere mw_6_173 rfl rfl ⟨Nat.le_of_ble_eq_true rfl, Nat.le_of_ble_eq_true rfl⟩) (pV hB.1 hK hN mh0 th0 (show shp cA 12 _ _ _ = .inr (12, Fs12 _ _ _) from rfl) rfl) rfl rfl hl.1 rfl (lv_room (Nat.le_of_ble_eq_true rfl)) dX12_isBendHere_45 ⟨Nat.le_of_ble_eq_true rfl, Nat.le_of_ble_eq_true rfl⟩) hLA hA hB hS (by decide) (fun x_26 σ_24 ρ_25 H locs hB fσ_24 pσ_24 hS => ?_)
    obtain ⟨g_27, g_28, g_29⟩ := pσ_24
    have w_30 : 0 ≤ (σ_24 h0 8).toInt ∧ (σ_24 h0 8).toInt ≤ 400 := by have z := hB.2.1 h0 mh0 8; rw [th0] at z; exact z
    have k_31 : σ_24 bd 1 = (σ bd 1) := (g_29 1 (by have hn : (x_19 : Int32).toNatClampNeg = x_19.toInt.toNat := rfl; omega)).trans k_20
    have k_32 : σ_24 bd 2 = (σ bd 2) := (g_29 2 (by have hn : (x_19 : Int32).toNatClampNeg = x_19.toInt.toNat := rfl; omega)).trans k_16
    have k_33 : σ_24 bd 3 = (σ bd 3) := (g_29 3 (by have hn : (x_19 : Int32).toNatClampNeg = x_19.toInt.toNat := rfl; omega)).trans k_23
    obtain ⟨lx_26, ux_26⟩ := g_27
    have k_34 : σ_24 h0 1 = (σ h0 1) := (FR.at fσ_24 th0 (by decide)).trans k_14
    have cq_35 : (σ_24 h0 1).toInt = (σ h0 1).toInt := congrArg Int32.toInt k_34
    refine lv_if_eq (tgt := 70) hx hb dX12_isBendHere_48 (by decide) (fun c_36 => ?_) (fun c_36 => ?_)
    · skip
      have uc_36 := i_eq (n := 0) (by decide) c_36
      refine lv_iconst (v := 0) hx hb dX12_isBendHere_70 (by decide) ?_
      exact W.zret (v := 0) hx hb hr rfl (fun t ht hW => ⟨⟨0, (σ_24, ρ_25), rfl, ⟨hB.2.1, hB.2.2, ⟨(show 0 ≤ (0 : Int32).toInt ∧ (0 : Int32).toInt ≤ 1 from ⟨by decide, by decide⟩), (show (σ h0 8).toInt ≤ (σ_24 h0 8).toInt from (by omega))⟩⟩, (show TP D cA L T r σ_24 ρ_25 t.heap from by rw [ht]; exact hB.1)⟩, hS.F ht⟩) hS.2.2 dX12_isBendHere_71
    · skip
      have uc_36 := i_ne (n := 0) (by decide) c_36
      refine lv_aload_n hx hb dX12_isBendHere_51 rfl (lv_at hl 1 rfl) ?_
      refine lv_iload_n hx hb dX12_isBendHere_52 rfl (lv_at hl 0 rfl) ?_
      refine lv_iconst (v := 1) hx hb dX12_isBendHere_53 (by decide) ?_
      refine lv_iadd hx hb dX12_isBendHere_54 ?_
      refine lv_topi (fun x_37 ex_37 => ?_)
      have vx_37 := b_add (rfl : x_19.toInt = _) (by decide : (1 : Int32).toInt = 1) ex_37 (by omega) (by omega)
      refine lv_iconst (v := 0) hx hb dX12_isBendHere_55 (by decide) ?_
      refine lv_aload_n hx hb dX12_isBendHere_56 rfl (lv_at hl 1 rfl) ?_
      refine t_gk hx hb hts hown hK hB mh0 th0 fq_12_7 hbd mw_5_223 dX12_isBendHere_57 ?_
      refine lv_iconst (v := 1) hx hb dX12_isBendHere_60 (by decide) ?_
      refine t_aj hx hb hK hB mbd tbd ai_66 (i_in (by decide) (by decide)) dX12_isBendHere_61 (fun x_38 ex_38 lx_38 ux_38 => ?_)
      have qx_38 : x_38 = (σ bd 1) := ex_38.trans k_31
      have qx_38 := qx_38.symm
      subst qx_38
      refine lv_iconst (v := 1) hx hb dX12_isBendHere_62 (by decide) ?_
      refine lv_isub hx hb dX12_isBendHere_63 ?_
      refine lv_topi (fun x_39 ex_39 => ?_)
      have vx_39 := b_sub (rfl : (σ bd 1).toInt = _) (by decide : (1 : Int32).toInt = 1) ex_39 (by omega) (by omega)
      refine t_ci (va_runV (As := [.int x_37, .int 0, .int x_39]) (rest := []) ⟨hx, hb, hml, hown, hts⟩ (cz_X12_cellHere l D cA L T r hG hLA.1 σ_24 ρ_25 hB.2.1 _ h0 mh0 th0 x_37 0 x_39 bt hbt mbt tbt bd hbd mbd tbd (by first | omega | decide) (by first | omega | decide) (by rw [sbB (by have hn : (x_37 : Int32).toNatClampNeg = x_37.toInt.toNat := rfl; omega) (by have hn : (x_37 : Int32).toNatClampNeg = x_37.toInt.toNat := rfl; omega)]; show (0 : Int) ≤ _; omega) (by rw [sbB (by have hn : (x_37 : Int32).toNatClampNeg = x_37.toInt.toNat := rfl; omega) (by have hn : (x_37 : Int32).toNatClampNeg = x_37.toInt.toNat := rfl; omega)]; show _ ≤ (4 : Int); omega)) (cV hts mv_X12_cellHere mw_6_173 rfl rfl ⟨Nat.le_of_ble_eq_true rfl, Nat.le_of_ble_eq_true rfl⟩) (pV hB.1 hK hN mh0 th0 (show shp cA 12 _ _ _ = .inr (12, Fs12 _ _ _) from rfl) rfl) rfl rfl hl.1 rfl (lv_room (Nat.le_of_ble_eq_true rfl)) dX12_isBendHere_64 ⟨Nat.le_of_ble_eq_true rfl, Nat.le_of_ble_eq_true rfl⟩) hLA hA hB hS (by decide) (fun x_42 σ_40 ρ_41 H locs hB fσ_40 pσ_40 hS => ?_)
      obtain ⟨g_43, g_44, g_45⟩ := pσ_40
      have w_46 : 0 ≤ (σ_40 h0 8).toInt ∧ (σ_40 h0 8).toInt ≤ 400 := by have z := hB.2.1 h0 mh0 8; rw [th0] at z; exact z
      have k_47 : σ_40 bd 1 = (σ bd 1) := (g_45 1 (by have hn : (x_37 : Int32).toNatClampNeg = x_37.toInt.toNat := rfl; omega)).trans k_31
      have k_48 : σ_40 bd 2 = (σ bd 2) := (g_45 2 (by have hn : (x_37 : Int32).toNatClampNeg = x_37.toInt.toNat := rfl; omega)).trans k_32
      have k_49 : σ_40 bd 3 = (σ bd 3) := (g_45 3 (by have hn : (x_37 : Int32).toNatClampNeg = x_37.toInt.toNat := rfl; omega)).trans k_33
      obtain ⟨lx_42, ux_42⟩ := g_43
      have k_50 : σ_40 h0 1 = (σ h0 1) := (FR.at fσ_40 th0 (by decide)).trans k_34
      have cq_51 : (σ_40 h0 1).toInt = (σ h0 1).toInt := congrArg Int32.toInt k_50
      refine lv_if_ne (tgt := 72) hx hb dX12_isBendHere_67 (by decide) (fun c_52 => ?_) (fun c_52 => ?_)
      · skip
        have uc_52 := i_ne (n := 0) (by decide) c_52
        refine lv_aload_n hx hb dX12_isBendHere_72 rfl (lv_at hl 1 rfl) ?_
        refine t_gk hx hb hts hown hK hB mh0 th0 fq_12_7 hbd mw_5_223 dX12_isBendHere_73 ?_
        refine lv_iconst (v := 2) hx hb dX12_isBendHere_76 (by decide) ?_
        refine lv_dup2_11 hx hb dX12_isBendHere_77 rfl rfl ?_
        refine t_aj hx hb hK hB mbd tbd ai_66 (i_in (by decide) (by decide)) dX12_isBendHere_78 (fun x_53 ex_53 lx_53 ux_53 => ?_)
        have qx_53 : x_53 = (σ bd 2) := ex_53.trans k_48
        have qx_53 := qx_53.symm
        subst qx_53
        refine lv_iconst (v := 1) hx hb dX12_isBendHere_79 (by decide) ?_
        refine lv_iadd hx hb dX12_isBendHere_80 ?_
        refine lv_topi (fun x_54 ex_54 => ?_)
        have vx_54 := b_add (rfl : (σ bd 2).toInt = _) (by decide : (1 : Int32).toInt = 1) ex_54 (by omega) (by omega)
        refine t_si hx hb hK hLA hB hS mbd tbd ai_66 (i_in (by decide) (by decide)) (show (0 : Int) ≤ x_54.toInt by omega) (show x_54.toInt ≤ (8 : Int) by omega) (Or.inr (by decide)) dX12_isBendHere_81 (fun H locs σ_55 eσ_55 hB hS => ?_)
        have k_56 : σ_55 bd 2 = x_54 := by rw [eσ_55]; exact up2_same _ _ _ _
        refine lv_iconst (v := 1) hx hb dX12_isBendHere_82 (by decide) ?_
        have k_57 : σ_55 h0 8 = (σ_40 h0 8) := by rw [eσ_55, up2_nej _ _ (by decide)]
        exact W.zret (v := 1) hx hb hr rfl (fun t ht hW => ⟨⟨1, (σ_55, ρ_41), rfl, ⟨hB.2.1, hB.2.2, ⟨(show 0 ≤ (1 : Int32).toInt ∧ (1 : Int32).toInt ≤ 1 from ⟨by decide, by decide⟩), (show (σ h0 8).toInt ≤ (σ_55 h0 8).toInt from (by rw [k_57]; omega))⟩⟩, (show TP D cA L T r σ_55 ρ_41 t.heap from by rw [ht]; exact hB.1)⟩, hS.F ht⟩) hS.2.2 dX12_isBendHere_83
      · skip
        have uc_52 := i_eq (n := 0) (by decide) c_52
        refine lv_iconst (v := 0) hx hb dX12_isBendHere_70 (by decide) ?_
        exact W.zret (v := 0) hx hb hr rfl (fun t ht hW => ⟨⟨0, (σ_40, ρ_41), rfl, ⟨hB.2.1, hB.2.2, ⟨(show 0 ≤ (0 : Int32).toInt ∧ (0 : Int32).toInt ≤ 1 from ⟨by decide, by decide⟩), (show (σ h0 8).toInt ≤ (σ_40 h0 8).toInt from (by omega))⟩⟩, (show TP D cA L T r σ_40 ρ_41 t.heap from by rw [ht]; exact hB.1)⟩, hS.F ht⟩) hS.2.2 dX12_isBendHere_71
  · skip
    have uc_7 := i_eq (n := 8) (by decide) c_7
    refine lv_aload_n hx hb dX12_isBendHere_11 rfl (lv_at hl 0 rfl) ?_
    refine lv_iconst (v := 4) hx hb dX12_isBendHere_12 (by decide) ?_
    refine lv_iload_n hx hb dX12_isBendHere_13 rfl (lv_at hl 1 rfl) ?_
    refine t_ci (va_runV (As := [.int 4, .int p1]) (rest := []) ⟨hx, hb, hml, hown, hts⟩ (cy_X12_fails l D cA L T r hG hLA.1 σ ρ hB.2.1 _ h0 mh0 th0 4 p1 (by first | omega | decide) (by first | omega | decide) (by first | omega | decide) (by first | omega | decide)) (cV hts mv_X12_fails mw_6_157 rfl rfl ⟨Nat.le_of_ble_eq_true rfl, Nat.le_of_ble_eq_true rfl⟩) (pV hB.1 hK hN mh0 th0 (show shp cA 12 _ _ _ = .inr (12, Fs12 _ _ _) from rfl) rfl) rfl rfl hl.1 rfl (lv_room (Nat.le_of_ble_eq_true rfl)) dX12_isBendHere_14 ⟨Nat.le_of_ble_eq_true rfl, Nat.le_of_ble_eq_true rfl⟩) hLA hA hB hS (by decide) (fun x_60 σ_58 ρ_59 H locs hB fσ_58 pσ_58 hS => ?_)
    subst pσ_58
    have k_61 : σ_58 h0 8 = (σ h0 8) := (FR.at fσ_58 th0 (by decide)).trans rfl
    have cq_62 : (σ_58 h0 8).toInt = (σ h0 8).toInt := congrArg Int32.toInt k_61
    have k_63 : σ_58 h0 1 = (σ h0 1) := (FR.at fσ_58 th0 (by decide)).trans rfl
    have cq_64 : (σ_58 h0 1).toInt = (σ h0 1).toInt := congrArg Int32.toInt k_63
    exact W.zret (v := 0) hx hb hr rfl (fun t ht hW => ⟨⟨0, (σ_58, ρ_59), rfl, ⟨hB.2.1, hB.2.2, ⟨(show 0 ≤ (0 : Int32).toInt ∧ (0 : Int32).toInt ≤ 1 from ⟨by decide, by decide⟩), (show (σ h0 8).toInt ≤ (σ_58 h0 8).toInt from (by rw [k_61]; omega))⟩⟩, (show TP D cA L T r σ_58 ρ_59 t.heap from by rw [ht]; exact hB.1)⟩, hS.F ht⟩) hS.2.2 dX12_isBendHere_17
theorem dX12_isPilgrimHere_0 : decode cX12_isPilgrimHere 0 = .ok (.aload_n 0, 1) := by decide +kernel
theorem dX12_isPilgrimHere_1 : decode cX12_isPilgrimHere 1 = .ok (.getfield 26, 3) := by decide +kernel
theorem dX12_isPilgrimHere_4 : decode cX12_isPilgrimHere 4 = .ok (.iconst 3, 1) := by decide +kernel
theorem dX12_isPilgrimHere_5 : decode cX12_isPilgrimHere 5 = .ok (.iaload, 1) := by decide +kernel
theorem dX12_isPilgrimHere_6 : decode cX12_isPilgrimHere 6 = .ok (.iconst 4, 1) := by decide +kernel
theorem dX12_isPilgrimHere_7 : decode cX12_isPilgrimHere 7 = .ok (.if_icmp .ne 10, 3) := by decide +kernel
theorem dX12_isPilgrimHere_17 : decode cX12_isPilgrimHere 17 = .ok (.aload_n 0, 1) := by decide +kernel
theorem dX12_isPilgrimHere_18 : decode cX12_isPilgrimHere 18 = .ok (.invokevirtual 117, 3) := by decide +kernel
theorem dX12_isPilgrimHere_21 : decode cX12_isPilgrimHere 21 = .ok (.bipush 58, 2) := by decide +kernel
theorem dX12_isPilgrimHere_23 : decode cX12_isPilgrimHere 23 = .ok (.bipush 9, 2) := by decide +kernel
theorem dX12_isPilgrimHere_25 : decode cX12_isPilgrimHere 25 = .ok (.aload_n 0, 1) := by decide +kernel
theorem dX12_isPilgrimHere_26 : decode cX12_isPilgrimHere 26 = .ok (.getfield 26, 3) := by decide +kernel
theorem dX12_isPilgrimHere_29 : decode cX12_isPilgrimHere 29 = .ok (.iconst 3, 1) := by decide +kernel
theorem dX12_isPilgrimHere_30 : decode cX12_isPilgrimHere 30 = .ok (.iaload, 1) := by decide +kernel
theorem dX12_isPilgrimHere_31 : decode cX12_isPilgrimHere 31 = .ok (.imul, 1) := by decide +kernel
theorem dX12_isPilgrimHere_32 : decode cX12_isPilgrimHere 32 = .ok (.iadd, 1) := by decide +kernel
theorem dX12_isPilgrimHere_33 : decode cX12_isPilgrimHere 33 = .ok (.istore_n 2, 1) := by decide +kernel
theorem dX12_isPilgrimHere_34 : decode cX12_isPilgrimHere 34 = .ok (.iconst 0, 1) := by decide +kernel
theorem dX12_isPilgrimHere_35 : decode cX12_isPilgrimHere 35 = .ok (.istore_n 3, 1) := by decide +kernel
theorem dX12_isPilgrimHere_36 : decode cX12_isPilgrimHere 36 = .ok (.iload_n 3, 1) := by decide +kernel
theorem dX12_isPilgrimHere_37 : decode cX12_isPilgrimHere 37 = .ok (.bipush 9, 2) := by decide +kernel
theorem dX12_isPilgrimHere_39 : decode cX12_isPilgrimHere 39 = .ok (.if_icmp .ge 18, 3) := by decide +kernel
theorem dX12_isPilgrimHere_42 : decode cX12_isPilgrimHere 42 = .ok (.aload_n 0, 1) := by decide +kernel
theorem dX12_isPilgrimHere_43 : decode cX12_isPilgrimHere 43 = .ok (.getfield 26, 3) := by decide +kernel
theorem dX12_isPilgrimHere_46 : decode cX12_isPilgrimHere 46 = .ok (.iload_n 2, 1) := by decide +kernel
theorem dX12_isPilgrimHere_47 : decode cX12_isPilgrimHere 47 = .ok (.iload_n 3, 1) := by decide +kernel
theorem dX12_isPilgrimHere_48 : decode cX12_isPilgrimHere 48 = .ok (.iadd, 1) := by decide +kernel
theorem dX12_isPilgrimHere_49 : decode cX12_isPilgrimHere 49 = .ok (.iconst 0, 1) := by decide +kernel
theorem dX12_isPilgrimHere_50 : decode cX12_isPilgrimHere 50 = .ok (.iastore, 1) := by decide +kernel
theorem dX12_isPilgrimHere_51 : decode cX12_isPilgrimHere 51 = .ok (.iinc 3 1, 3) := by decide +kernel
theorem dX12_isPilgrimHere_54 : decode cX12_isPilgrimHere 54 = .ok (.goto (-18), 3) := by decide +kernel
theorem dX12_isPilgrimHere_57 : decode cX12_isPilgrimHere 57 = .ok (.aload_n 0, 1) := by decide +kernel
theorem dX12_isPilgrimHere_58 : decode cX12_isPilgrimHere 58 = .ok (.iload_n 2, 1) := by decide +kernel
theorem dX12_isPilgrimHere_59 : decode cX12_isPilgrimHere 59 = .ok (.iconst 1, 1) := by decide +kernel
theorem dX12_isPilgrimHere_60 : decode cX12_isPilgrimHere 60 = .ok (.iadd, 1) := by decide +kernel
theorem dX12_isPilgrimHere_61 : decode cX12_isPilgrimHere 61 = .ok (.iconst 0, 1) := by decide +kernel
theorem dX12_isPilgrimHere_62 : decode cX12_isPilgrimHere 62 = .ok (.bipush 99, 2) := by decide +kernel
theorem dX12_isPilgrimHere_64 : decode cX12_isPilgrimHere 64 = .ok (.invokevirtual 226, 3) := by decide +kernel
theorem dX12_isPilgrimHere_67 : decode cX12_isPilgrimHere 67 = .ok (.ifCond .ne 5, 3) := by decide +kernel
theorem dX12_isPilgrimHere_72 : decode cX12_isPilgrimHere 72 = .ok (.aload_n 0, 1) := by decide +kernel
theorem dX12_isPilgrimHere_73 : decode cX12_isPilgrimHere 73 = .ok (.getfield 26, 3) := by decide +kernel
theorem dX12_isPilgrimHere_76 : decode cX12_isPilgrimHere 76 = .ok (.iconst 3, 1) := by decide +kernel
theorem dX12_isPilgrimHere_77 : decode cX12_isPilgrimHere 77 = .ok (.dup2, 1) := by decide +kernel
theorem dX12_isPilgrimHere_78 : decode cX12_isPilgrimHere 78 = .ok (.iaload, 1) := by decide +kernel
theorem dX12_isPilgrimHere_79 : decode cX12_isPilgrimHere 79 = .ok (.iconst 1, 1) := by decide +kernel
theorem dX12_isPilgrimHere_80 : decode cX12_isPilgrimHere 80 = .ok (.iadd, 1) := by decide +kernel
theorem dX12_isPilgrimHere_81 : decode cX12_isPilgrimHere 81 = .ok (.iastore, 1) := by decide +kernel
theorem dX12_isPilgrimHere_82 : decode cX12_isPilgrimHere 82 = .ok (.iconst 1, 1) := by decide +kernel
theorem dX12_isPilgrimHere_83 : decode cX12_isPilgrimHere 83 = .ok (.ireturn, 1) := by decide +kernel
theorem dX12_isPilgrimHere_70 : decode cX12_isPilgrimHere 70 = .ok (.iconst 0, 1) := by decide +kernel
theorem dX12_isPilgrimHere_71 : decode cX12_isPilgrimHere 71 = .ok (.ireturn, 1) := by decide +kernel
theorem dX12_isPilgrimHere_10 : decode cX12_isPilgrimHere 10 = .ok (.aload_n 0, 1) := by decide +kernel
theorem dX12_isPilgrimHere_11 : decode cX12_isPilgrimHere 11 = .ok (.iconst 4, 1) := by decide +kernel
theorem dX12_isPilgrimHere_12 : decode cX12_isPilgrimHere 12 = .ok (.iload_n 1, 1) := by decide +kernel
theorem dX12_isPilgrimHere_13 : decode cX12_isPilgrimHere 13 = .ok (.invokevirtual 123, 3) := by decide +kernel
theorem dX12_isPilgrimHere_16 : decode cX12_isPilgrimHere 16 = .ok (.ireturn, 1) := by decide +kernel
set_option maxHeartbeats 4000000 in
set_option maxRecDepth 100000 in
theorem cz_X12_isPilgrimHere (l : Launch) (D : va_G) (cA : Nat → ClassId) (L : List Nat) (T : Nat → Nat) (r : Rg) (hG : GR L T r) (hL : L.Nodup) (σ : Sg) (ρ : Lg) (hW : WT L ry T σ) (sz : Nat) (h0 : Nat) (mh0 : h0 ∈ L) (th0 : T h0 = 12) (p1 : Int32) (bt : Nat) (hbt : r h0 0 = some bt) (mbt : bt ∈ L) (tbt : T bt = 61) (bd : Nat) (hbd : r h0 7 = some bd) (mbd : bd ∈ L) (tbd : T bd = 66) (w0 : 0 ≤ p1.toInt) (w1 : p1.toInt ≤ 400) : Met l yX12_isPilgrimHere (.code yX12_isPilgrimHere cX12_isPilgrimHere 4 (some .boolean) :: wsA) ({ frames := 3, cells := 0, slots := 0, locals := 72 }) (PR D cA L T r σ ρ sz [.ref h0, .int p1]) (QI D cA L T r ry [(12, 8), (12, 9), (12, 10), (66, 1000)] σ sz (fun x σ1 => (0 ≤ x.toInt ∧ x.toInt ≤ 1) ∧ ((σ h0 8).toInt ≤ (σ1 h0 8).toInt))) 0 0 (dm L sz) := by
  refine Met.ofW (cc := cX12_isPilgrimHere) (maxL := 4) (ret := (some .boolean)) (by decide) rfl ?_
  intro p e s m args below meth c s₁ B hml hv
  obtain ⟨rfl, hsz, hP, hK, hN⟩ := hv
  have hx := B.exec
  have hb := B.bytes
  have hr := B.returns
  have hts : ∀ w ∈ wsA, w.before _ s = true := fun w h => atoms_spec (ws := .code yX12_isPilgrimHere cX12_isPilgrimHere 4 (some .boolean) :: wsA) B.pre w (List.mem_cons_of_mem _ h)
  have hown : s.vm.findClass RX12 = some m.cls := findClass_of_methodNamed B.named
  subst hsz
  have hLA : LA (dm L s.heap.size) L := ⟨hL, fun a h => Or.inl h⟩
  have hA : ∀ q : Nat, s.heap.size ≤ q → dm L s.heap.size q := fun q h => Or.inr h
  have hS : va_S (dm L s.heap.size) s.heap s.heap [] := va_S.rf
  have hB : TS D cA L T r ry [(12, 8), (12, 9), (12, 10), (66, 1000)] σ σ ρ s.heap := ⟨hP, hW, FR.rf⟩
  have hl := lv_entry ([.ref h0, .int p1]) (n := 4) (Nat.le_of_ble_eq_true rfl)
  rw [lg_entry_eq]
  generalize (lg_sl ([.ref h0, .int p1]) ++ List.replicate (4 - (lg_sl ([.ref h0, .int p1])).length) Slot.unset).toArray = ls at hl ⊢
  have hl : lv_has ls 4 [(0, .ref h0), (1, .int p1)] := hl
  have w_1 : 0 ≤ (σ h0 8).toInt ∧ (σ h0 8).toInt ≤ 400 := by have z := hB.2.1 h0 mh0 8; rw [th0] at z; exact z
  have w_2 : 0 ≤ (σ h0 1).toInt ∧ (σ h0 1).toInt ≤ 400 := by have z := hB.2.1 h0 mh0 1; rw [th0] at z; exact z
  have w_3 : 0 ≤ (σ bd 1).toInt ∧ (σ bd 1).toInt ≤ 5 := by have z := hB.2.1 bd mbd 1; rw [tbd] at z; exact z
  have w_4 : 0 ≤ (σ bd 2).toInt ∧ (σ bd 2).toInt ≤ 8 := by have z := hB.2.1 bd mbd 2; rw [tbd] at z; exact z
  have w_5 : 0 ≤ (σ bd 3).toInt ∧ (σ bd 3).toInt ≤ 4 := by have z := hB.2.1 bd mbd 3; rw [tbd] at z; exact z
  refine lv_aload_n hx hb dX12_isPilgrimHere_0 rfl (lv_at hl 0 rfl) ?_
  refine t_gk hx hb hts hown hK hB mh0 th0 fq_12_7 hbd mw_5_223 dX12_isPilgrimHere_1 ?_
  refine lv_iconst (v := 3) hx hb dX12_isPilgrimHere_4 (by decide) ?_
  refine t_aj hx hb hK hB mbd tbd ai_66 (i_in (by decide) (by decide)) dX12_isPilgrimHere_5 (fun x_6 ex_6 lx_6 ux_6 => ?_)
  have qx_6 : x_6 = (σ bd 3) := ex_6.trans rfl
  have qx_6 := qx_6.symm
  subst qx_6
  refine lv_iconst (v := 4) hx hb dX12_isPilgrimHere_6 (by decide) ?_
  refine lv_icmp_ne (tgt := 17) hx hb dX12_isPilgrimHere_7 (by decide) (fun c_7 => ?_) (fun c_7 => ?_)
  · skip
    have uc_7 := i_ne (n := 4) (by decide) c_7
    refine lv_aload_n hx hb dX12_isPilgrimHere_17 rfl (lv_at hl 0 rfl) ?_
    refine t_cv (va_runV (As := []) (rest := []) ⟨hx, hb, hml, hown, hts⟩ (cz_X12_passWord l D cA L T r hG hLA.1 σ ρ hB.2.1 _ h0 mh0 th0 bt hbt mbt tbt) (cV hts mv_X12_passWord mw_6_169 rfl rfl ⟨Nat.le_of_ble_eq_true rfl, Nat.le_of_ble_eq_true rfl⟩) (pV hB.1 hK hN mh0 th0 (show shp cA 12 _ _ _ = .inr (12, Fs12 _ _ _) from rfl) rfl) rfl rfl hl.1 rfl (lv_room (Nat.le_of_ble_eq_true rfl)) dX12_isPilgrimHere_18 ⟨Nat.le_of_ble_eq_true rfl, Nat.le_of_ble_eq_true rfl⟩) hLA hA hB hS (by decide) (fun σ_8 ρ_9 H locs hB fσ_8 pσ_8 hS => ?_)
    obtain ⟨g_11, g_12⟩ := pσ_8
    have w_13 : 0 ≤ (σ_8 h0 8).toInt ∧ (σ_8 h0 8).toInt ≤ 400 := by have z := hB.2.1 h0 mh0 8; rw [th0] at z; exact z
    have k_14 : σ_8 h0 1 = (σ h0 1) := (FR.at fσ_8 th0 (by decide)).trans rfl
    have cq_15 : (σ_8 h0 1).toInt = (σ h0 1).toInt := congrArg Int32.toInt k_14
    refine lv_bipush (v := 58) hx hb dX12_isPilgrimHere_21 (by decide) ?_
    refine lv_bipush (v := 9) hx hb dX12_isPilgrimHere_23 (by decide) ?_
    refine lv_aload_n hx hb dX12_isPilgrimHere_25 rfl (lv_at hl 0 rfl) ?_
    refine t_gk hx hb hts hown hK hB mh0 th0 fq_12_7 hbd mw_5_223 dX12_isPilgrimHere_26 ?_
    refine lv_iconst (v := 3) hx hb dX12_isPilgrimHere_29 (by decide) ?_
    have k_16 : σ_8 bd 3 = (σ bd 3) := (FR.at fσ_8 tbd (by decide)).trans rfl
    refine t_aj hx hb hK hB mbd tbd ai_66 (i_in (by decide) (by decide)) dX12_isPilgrimHere_30 (fun x_17 ex_17 lx_17 ux_17 => ?_)
    have qx_17 : x_17 = (σ bd 3) := ex_17.trans k_16
    have qx_17 := qx_17.symm
    subst qx_17
    refine lv_imul hx hb dX12_isPilgrimHere_31 ?_
    refine lv_topi (fun x_18 ex_18 => ?_)
    have vx_18 := b_mul (by decide : (9 : Int32).toInt = 9) (rfl : (σ bd 3).toInt = _) ex_18 (by omega) (by omega)
    refine lv_iadd hx hb dX12_isPilgrimHere_32 ?_
    refine lv_topi (fun x_19 ex_19 => ?_)
    have vx_19 := b_add (by decide : (58 : Int32).toInt = 58) (rfl : x_18.toInt = _) ex_19 (by omega) (by omega)
    refine lv_istore_n (lv' := [(2, .int x_19), (0, .ref h0), (1, .int p1)]) hx hb dX12_isPilgrimHere_33 rfl hl (by decide) rfl (fun ls hl => ?_)
    refine lv_iconst (v := 0) hx hb dX12_isPilgrimHere_34 (by decide) ?_
    refine lv_istore_n (lv' := [(3, .int 0), (2, .int x_19), (0, .ref h0), (1, .int p1)]) hx hb dX12_isPilgrimHere_35 rfl hl (by decide) rfl (fun ls hl => ?_)
    refine lv_iload_n hx hb dX12_isPilgrimHere_36 rfl (lv_at hl 0 rfl) ?_
    refine lv_bipush (v := 9) hx hb dX12_isPilgrimHere_37 (by decide) ?_
    refine lv_icmp_ge (tgt := 57) hx hb dX12_isPilgrimHere_39 (by decide) (fun c9 => absurd c9 (by decide)) (fun _ => ?_)
    refine lv_aload_n hx hb dX12_isPilgrimHere_42 rfl (lv_at hl 2 rfl) ?_
    refine t_gk hx hb hts hown hK hB mh0 th0 fq_12_7 hbd mw_5_223 dX12_isPilgrimHere_43 ?_
    refine lv_iload_n hx hb dX12_isPilgrimHere_46 rfl (lv_at hl 1 rfl) ?_
    refine lv_iload_n hx hb dX12_isPilgrimHere_47 rfl (lv_at hl 0 rfl) ?_
    refine lv_iadd hx hb dX12_isPilgrimHere_48 ?_
    refine lv_topi (fun x_20 ex_20 => ?_)
    have vx_20 := b_add (rfl : x_19.toInt = _) (by decide : (0 : Int32).toInt = 0) ex_20 (by omega) (by omega)
    refine lv_iconst (v := 0) hx hb dX12_isPilgrimHere_49 (by decide) ?_
    refine t_si hx hb hK hLA hB hS mbd tbd ai_66 (i_in (by omega) (by omega)) (show (sb _).1 ≤ _ by rw [show (0 : Int32).toInt = 0 from by decide]; exact (sb_z _).1) (show _ ≤ (sb _).2 by rw [show (0 : Int32).toInt = 0 from by decide]; exact (sb_z _).2) (Or.inr (by decide)) dX12_isPilgrimHere_50 (fun H locs σ_21 eσ_21 hB hS => ?_)
    have k_22 : σ_21 bd x_20.toNatClampNeg = 0 := by rw [eσ_21]; exact up2_same _ _ _ _
    refine lv_iinc (v := 1) (lv' := [(3, .int 1), (2, .int x_19), (0, .ref h0), (1, .int p1)]) hx hb dX12_isPilgrimHere_51 hl (k := 0) rfl (by decide) (by decide) rfl (fun ls hl => ?_)
    refine lv_goto (tgt := 36) hx hb dX12_isPilgrimHere_54 (by decide) ?_
    refine lv_iload_n hx hb dX12_isPilgrimHere_36 rfl (lv_at hl 0 rfl) ?_
    refine lv_bipush (v := 9) hx hb dX12_isPilgrimHere_37 (by decide) ?_
    refine lv_icmp_ge (tgt := 57) hx hb dX12_isPilgrimHere_39 (by decide) (fun c9 => absurd c9 (by decide)) (fun _ => ?_)
    refine lv_aload_n hx hb dX12_isPilgrimHere_42 rfl (lv_at hl 2 rfl) ?_
    refine t_gk hx hb hts hown hK hB mh0 th0 fq_12_7 hbd mw_5_223 dX12_isPilgrimHere_43 ?_
    refine lv_iload_n hx hb dX12_isPilgrimHere_46 rfl (lv_at hl 1 rfl) ?_
    refine lv_iload_n hx hb dX12_isPilgrimHere_47 rfl (lv_at hl 0 rfl) ?_
    refine lv_iadd hx hb dX12_isPilgrimHere_48 ?_
    refine lv_topi (fun x_23 ex_23 => ?_)
    have vx_23 := b_add (rfl : x_19.toInt = _) (by decide : (1 : Int32).toInt = 1) ex_23 (by omega) (by omega)
    refine lv_iconst (v := 0) hx hb dX12_isPilgrimHere_49 (by decide) ?_
    refine t_si hx hb hK hLA hB hS mbd tbd ai_66 (i_in (by omega) (by omega)) (show (sb _).1 ≤ _ by rw [show (0 : Int32).toInt = 0 from by decide]; exact (sb_z _).1) (show _ ≤ (sb _).2 by rw [show (0 : Int32).toInt = 0 from by decide]; exact (sb_z _).2) (Or.inr (by decide)) dX12_isPilgrimHere_50 (fun H locs σ_24 eσ_24 hB hS => ?_)
    have k_25 : σ_24 bd x_23.toNatClampNeg = 0 := by rw [eσ_24]; exact up2_same _ _ _ _
    refine lv_iinc (v := 2) (lv' := [(3, .int 2), (2, .int x_19), (0, .ref h0), (1, .int p1)]) hx hb dX12_isPilgrimHere_51 hl (k := 0) rfl (by decide) (by decide) rfl (fun ls hl => ?_)
    refine lv_goto (tgt := 36) hx hb dX12_isPilgrimHere_54 (by decide) ?_
    refine lv_iload_n hx hb dX12_isPilgrimHere_36 rfl (lv_at hl 0 rfl) ?_
    refine lv_bipush (v := 9) hx hb dX12_isPilgrimHere_37 (by decide) ?_
    refine lv_icmp_ge (tgt := 57) hx hb dX12_isPilgrimHere_39 (by decide) (fun c9 => absurd c9 (by decide)) (fun _ => ?_)
    refine lv_aload_n hx hb dX12_isPilgrimHere_42 rfl (lv_at hl 2 rfl) ?_
    refine t_gk hx hb hts hown hK hB mh0 th0 fq_12_7 hbd mw_5_223 dX12_isPilgrimHere_43 ?_
    refine lv_iload_n hx hb dX12_isPilgrimHere_46 rfl (lv_at hl 1 rfl) ?_
    refine lv_iload_n hx hb dX12_isPilgrimHere_47 rfl (lv_at hl 0 rfl) ?_
    refine lv_iadd hx hb dX12_isPilgrimHere_48 ?_
    refine lv_topi (fun x_26 ex_26 => ?_)
    have vx_26 := b_add (rfl : x_19.toInt = _) (by decide : (2 : Int32).toInt = 2) ex_26 (by omega) (by omega)
    refine lv_iconst (v := 0) hx hb dX12_isPilgrimHere_49 (by decide) ?_
    refine t_si hx hb hK hLA hB hS mbd tbd ai_66 (i_in (by omega) (by omega)) (show (sb _).1 ≤ _ by rw [show (0 : Int32).toInt = 0 from by decide]; exact (sb_z _).1) (show _ ≤ (sb _).2 by rw [show (0 : Int32).toInt = 0 from by decide]; exact (sb_z _).2) (Or.inr (by decide)) dX12_isPilgrimHere_50 (fun H locs σ_27 eσ_27 hB hS => ?_)
    have k_28 : σ_27 bd x_26.toNatClampNeg = 0 := by rw [eσ_27]; exact up2_same _ _ _ _
    refine lv_iinc (v := 3) (lv' := [(3, .int 3), (2, .int x_19), (0, .ref h0), (1, .int p1)]) hx hb dX12_isPilgrimHere_51 hl (k := 0) rfl (by decide) (by decide) rfl (fun ls hl => ?_)
    refine lv_goto (tgt := 36) hx hb dX12_isPilgrimHere_54 (by decide) ?_
    refine lv_iload_n hx hb dX12_isPilgrimHere_36 rfl (lv_at hl 0 rfl) ?_
    refine lv_bipush (v := 9) hx hb dX12_isPilgrimHere_37 (by decide) ?_
    refine lv_icmp_ge (tgt := 57) hx hb dX12_isPilgrimHere_39 (by decide) (fun c9 => absurd c9 (by decide)) (fun _ => ?_)
    refine lv_aload_n hx hb dX12_isPilgrimHere_42 rfl (lv_at hl 2 rfl) ?_
    refine t_gk hx hb hts hown hK hB mh0 th0 fq_12_7 hbd mw_5_223 dX12_isPilgrimHere_43 ?_
    refine lv_iload_n hx hb dX12_isPilgrimHere_46 rfl (lv_at hl 1 rfl) ?_
    refine lv_iload_n hx hb dX12_isPilgrimHere_47 rfl (lv_at hl 0 rfl) ?_
    refine lv_iadd hx hb dX12_isPilgrimHere_48 ?_
    refine lv_topi (fun x_29 ex_29 => ?_)
    have vx_29 := b_add (rfl : x_19.toInt = _) (by decide : (3 : Int32).toInt = 3) ex_29 (by omega) (by omega)
    refine lv_iconst (v := 0) hx hb dX12_isPilgrimHere_49 (by decide) ?_
    refine t_si hx hb hK hLA hB hS mbd tbd ai_66 (i_in (by omega) (by omega)) (show (sb _).1 ≤ _ by rw [show (0 : Int32).toInt = 0 from by decide]; exact (sb_z _).1) (show _ ≤ (sb _).2 by rw [show (0 : Int32).toInt = 0 from by decide]; exact (sb_z _).2) (Or.inr (by decide)) dX12_isPilgrimHere_50 (fun H locs σ_30 eσ_30 hB hS => ?_)
    have k_31 : σ_30 bd x_29.toNatClampNeg = 0 := by rw [eσ_30]; exact up2_same _ _ _ _
    refine lv_iinc (v := 4) (lv' := [(3, .int 4), (2, .int x_19), (0, .ref h0), (1, .int p1)]) hx hb dX12_isPilgrimHere_51 hl (k := 0) rfl (by decide) (by decide) rfl (fun ls hl => ?_)
    refine lv_goto (tgt := 36) hx hb dX12_isPilgrimHere_54 (by decide) ?_
    refine lv_iload_n hx hb dX12_isPilgrimHere_36 rfl (lv_at hl 0 rfl) ?_
    refine lv_bipush (v := 9) hx hb dX12_isPilgrimHere_37 (by decide) ?_
    refine lv_icmp_ge (tgt := 57) hx hb dX12_isPilgrimHere_39 (by decide) (fun c9 => absurd c9 (by decide)) (fun _ => ?_)
    refine lv_aload_n hx hb dX12_isPilgrimHere_42 rfl (lv_at hl 2 rfl) ?_
    refine t_gk hx hb hts hown hK hB mh0 th0 fq_12_7 hbd mw_5_223 dX12_isPilgrimHere_43 ?_
    refine lv_iload_n hx hb dX12_isPilgrimHere_46 rfl (lv_at hl 1 rfl) ?_
    refine lv_iload_n hx hb dX12_isPilgrimHere_47 rfl (lv_at hl 0 rfl) ?_
    refine lv_iadd hx hb dX12_isPilgrimHere_48 ?_
    refine lv_topi (fun x_32 ex_32 => ?_)
    have vx_32 := b_add (rfl : x_19.toInt = _) (by decide : (4 : Int32).toInt = 4) ex_32 (by omega) (by omega)
    refine lv_iconst (v := 0) hx hb dX12_isPilgrimHere_49 (by decide) ?_
    refine t_si hx hb hK hLA hB hS mbd tbd ai_66 (i_in (by omega) (by omega)) (show (sb _).1 ≤ _ by rw [show (0 : Int32).toInt = 0 from by decide]; exact (sb_z _).1) (show _ ≤ (sb _).2 by rw [show (0 : Int32).toInt = 0 from by decide]; exact (sb_z _).2) (Or.inr (by decide)) dX12_isPilgrimHere_50 (fun H locs σ_33 eσ_33 hB hS => ?_)
    have k_34 : σ_33 bd x_32.toNatClampNeg = 0 := by rw [eσ_33]; exact up2_same _ _ _ _
    refine lv_iinc (v := 5) (lv' := [(3, .int 5), (2, .int x_19), (0, .ref h0), (1, .int p1)]) hx hb dX12_isPilgrimHere_51 hl (k := 0) rfl (by decide) (by decide) rfl (fun ls hl => ?_)
    refine lv_goto (tgt := 36) hx hb dX12_isPilgrimHere_54 (by decide) ?_
    refine lv_iload_n hx hb dX12_isPilgrimHere_36 rfl (lv_at hl 0 rfl) ?_
    refine lv_bipush (v := 9) hx hb dX12_isPilgrimHere_37 (by decide) ?_
    refine lv_icmp_ge (tgt := 57) hx hb dX12_isPilgrimHere_39 (by decide) (fun c9 => absurd c9 (by decide)) (fun _ => ?_)
    refine lv_aload_n hx hb dX12_isPilgrimHere_42 rfl (lv_at hl 2 rfl) ?_
    refine t_gk hx hb hts hown hK hB mh0 th0 fq_12_7 hbd mw_5_223 dX12_isPilgrimHere_43 ?_
    refine lv_iload_n hx hb dX12_isPilgrimHere_46 rfl (lv_at hl 1 rfl) ?_
    refine lv_iload_n hx hb dX12_isPilgrimHere_47 rfl (lv_at hl 0 rfl) ?_
    refine lv_iadd hx hb dX12_isPilgrimHere_48 ?_
    refine lv_topi (fun x_35 ex_35 => ?_)
    have vx_35 := b_add (rfl : x_19.toInt = _) (by decide : (5 : Int32).toInt = 5) ex_35 (by omega) (by omega)
    refine lv_iconst (v := 0) hx hb dX12_isPilgrimHere_49 (by decide) ?_
    refine t_si hx hb hK hLA hB hS mbd tbd ai_66 (i_in (by omega) (by omega)) (show (sb _).1 ≤ _ by rw [show (0 : Int32).toInt = 0 from by decide]; exact (sb_z _).1) (show _ ≤ (sb _).2 by rw [show (0 : Int32).toInt = 0 from by decide]; exact (sb_z _).2) (Or.inr (by decide)) dX12_isPilgrimHere_50 (fun H locs σ_36 eσ_36 hB hS => ?_)
    have k_37 : σ_36 bd x_35.toNatClampNeg = 0 := by rw [eσ_36]; exact up2_same _ _ _ _
    refine lv_iinc (v := 6) (lv' := [(3, .int 6), (2, .int x_19), (0, .ref h0), (1, .int p1)]) hx hb dX12_isPilgrimHere_51 hl (k := 0) rfl (by decide) (by decide) rfl (fun ls hl => ?_)
    refine lv_goto (tgt := 36) hx hb dX12_isPilgrimHere_54 (by decide) ?_
    refine lv_iload_n hx hb dX12_isPilgrimHere_36 rfl (lv_at hl 0 rfl) ?_
    refine lv_bipush (v := 9) hx hb dX12_isPilgrimHere_37 (by decide) ?_
    refine lv_icmp_ge (tgt := 57) hx hb dX12_isPilgrimHere_39 (by decide) (fun c9 => absurd c9 (by decide)) (fun _ => ?_)
    refine lv_aload_n hx hb dX12_isPilgrimHere_42 rfl (lv_at hl 2 rfl) ?_
    refine t_gk hx hb hts hown hK hB mh0 th0 fq_12_7 hbd mw_5_223 dX12_isPilgrimHere_43 ?_
    refine lv_iload_n hx hb dX12_isPilgrimHere_46 rfl (lv_at hl 1 rfl) ?_
    refine lv_iload_n hx hb dX12_isPilgrimHere_47 rfl (lv_at hl 0 rfl) ?_
    refine lv_iadd hx hb dX12_isPilgrimHere_48 ?_
    refine lv_topi (fun x_38 ex_38 => ?_)
    have vx_38 := b_add (rfl : x_19.toInt = _) (by decide : (6 : Int32).toInt = 6) ex_38 (by omega) (by omega)
    refine lv_iconst (v := 0) hx hb dX12_isPilgrimHere_49 (by decide) ?_
    refine t_si hx hb hK hLA hB hS mbd tbd ai_66 (i_in (by omega) (by omega)) (show (sb _).1 ≤ _ by rw [show (0 : Int32).toInt = 0 from by decide]; exact (sb_z _).1) (show _ ≤ (sb _).2 by rw [show (0 : Int32).toInt = 0 from by decide]; exact (sb_z _).2) (Or.inr (by decide)) dX12_isPilgrimHere_50 (fun H locs σ_39 eσ_39 hB hS => ?_)
    have k_40 : σ_39 bd x_38.toNatClampNeg = 0 := by rw [eσ_39]; exact up2_same _ _ _ _
    refine lv_iinc (v := 7) (lv' := [(3, .int 7), (2, .int x_19), (0, .ref h0), (1, .int p1)]) hx hb dX12_isPilgrimHere_51 hl (k := 0) rfl (by decide) (by decide) rfl (fun ls hl => ?_)
    refine lv_goto (tgt := 36) hx hb dX12_isPilgrimHere_54 (by decide) ?_
    refine lv_iload_n hx hb dX12_isPilgrimHere_36 rfl (lv_at hl 0 rfl) ?_
    refine lv_bipush (v := 9) hx hb dX12_isPilgrimHere_37 (by decide) ?_
    refine lv_icmp_ge (tgt := 57) hx hb dX12_isPilgrimHere_39 (by decide) (fun c9 => absurd c9 (by decide)) (fun _ => ?_)
    refine lv_aload_n hx hb dX12_isPilgrimHere_42 rfl (lv_at hl 2 rfl) ?_
    refine t_gk hx hb hts hown hK hB mh0 th0 fq_12_7 hbd mw_5_223 dX12_isPilgrimHere_43 ?_
    refine lv_iload_n hx hb dX12_isPilgrimHere_46 rfl (lv_at hl 1 rfl) ?_
    refine lv_iload_n hx hb dX12_isPilgrimHere_47 rfl (lv_at hl 0 rfl) ?_
    refine lv_iadd hx hb dX12_isPilgrimHere_48 ?_
    refine lv_topi (fun x_41 ex_41 => ?_)
    have vx_41 := b_add (rfl : x_19.toInt = _) (by decide : (7 : Int32).toInt = 7) ex_41 (by omega) (by omega)
    refine lv_iconst (v := 0) hx hb dX12_isPilgrimHere_49 (by decide) ?_
    refine t_si hx hb hK hLA hB hS mbd tbd ai_66 (i_in (by omega) (by omega)) (show (sb _).1 ≤ _ by rw [show (0 : Int32).toInt = 0 from by decide]; exact (sb_z _).1) (show _ ≤ (sb _).2 by rw [show (0 : Int32).toInt = 0 from by decide]; exact (sb_z _).2) (Or.inr (by decide)) dX12_isPilgrimHere_50 (fun H locs σ_42 eσ_42 hB hS => ?_)
    have k_43 : σ_42 bd x_41.toNatClampNeg = 0 := by rw [eσ_42]; exact up2_same _ _ _ _
    refine lv_iinc (v := 8) (lv' := [(3, .int 8), (2, .int x_19), (0, .ref h0), (1, .int p1)]) hx hb dX12_isPilgrimHere_51 hl (k := 0) rfl (by decide) (by decide) rfl (fun ls hl => ?_)
    refine lv_goto (tgt := 36) hx hb dX12_isPilgrimHere_54 (by decide) ?_
    refine lv_iload_n hx hb dX12_isPilgrimHere_36 rfl (lv_at hl 0 rfl) ?_
    refine lv_bipush (v := 9) hx hb dX12_isPilgrimHere_37 (by decide) ?_
    refine lv_icmp_ge (tgt := 57) hx hb dX12_isPilgrimHere_39 (by decide) (fun c9 => absurd c9 (by decide)) (fun _ => ?_)
    refine lv_aload_n hx hb dX12_isPilgrimHere_42 rfl (lv_at hl 2 rfl) ?_
    refine t_gk hx hb hts hown hK hB mh0 th0 fq_12_7 hbd mw_5_223 dX12_isPilgrimHere_43 ?_
    refine lv_iload_n hx hb dX12_isPilgrimHere_46 rfl (lv_at hl 1 rfl) ?_
    refine lv_iload_n hx hb dX12_isPilgrimHere_47 rfl (lv_at hl 0 rfl) ?_
    refine lv_iadd hx hb dX12_isPilgrimHere_48 ?_
    refine lv_topi (fun x_44 ex_44 => ?_)
    have vx_44 := b_add (rfl : x_19.toInt = _) (by decide : (8 : Int32).toInt = 8) ex_44 (by omega) (by omega)
    refine lv_iconst (v := 0) hx hb dX12_isPilgrimHere_49 (by decide) ?_
    refine t_si hx hb hK hLA hB hS mbd tbd ai_66 (i_in (by omega) (by omega)) (show (sb _).1 ≤ _ by rw [show (0 : Int32).toInt = 0 from by decide]; exact (sb_z _).1) (show _ ≤ (sb _).2 by rw [show (0 : Int32).toInt = 0 from by decide]; exact (sb_z _).2) (Or.inr (by decide)) dX12_isPilgrimHere_50 (fun H locs σ_45 eσ_45 hB hS => ?_)
    have k_46 : σ_45 bd x_44.toNatClampNeg = 0 := by rw [eσ_45]; exact up2_same _ _ _ _
    refine lv_iinc (v := 9) (lv' := [(3, .int 9), (2, .int x_19), (0, .ref h0), (1, .int p1)]) hx hb dX12_isPilgrimHere_51 hl (k := 0) rfl (by decide) (by decide) rfl (fun ls hl => ?_)
    refine lv_goto (tgt := 36) hx hb dX12_isPilgrimHere_54 (by decide) ?_
    refine lv_iload_n hx hb dX12_isPilgrimHere_36 rfl (lv_at hl 0 rfl) ?_
    refine lv_bipush (v := 9) hx hb dX12_isPilgrimHere_37 (by decide) ?_
    refine lv_icmp_ge (tgt := 57) hx hb dX12_isPilgrimHere_39 (by decide) (fun _ => ?_) (fun c9 => absurd (by decide) c9)
    refine lv_aload_n hx hb dX12_isPilgrimHere_57 rfl (lv_at hl 2 rfl) ?_
    refine lv_iload_n hx hb dX12_isPilgrimHere_58 rfl (lv_at hl 1 rfl) ?_
    refine lv_iconst (v := 1) hx hb dX12_isPilgrimHere_59 (by decide) ?_
    refine lv_iadd hx hb dX12_isPilgrimHere_60 ?_
    refine lv_topi (fun x_47 ex_47 => ?_)
    have vx_47 := b_add (rfl : x_19.toInt = _) (by decide : (1 : Int32).toInt = 1) ex_47 (by omega) (by omega)
    refine lv_iconst (v := 0) hx hb dX12_isPilgrimHere_61 (by decide) ?_
    refine lv_bipush (v := 99) hx hb dX12_isPilgrimHere_62 (by decide) ?_
    have k_48 : σ_21 h0 8 = (σ_8 h0 8) := by rw [eσ_21, up2_nea _ _ (tg_ne th0 tbd (by decide))]
    have k_49 : σ_24 h0 8 = (σ_8 h0 8) := by rw [eσ_24, up2_nea _ _ (tg_ne th0 tbd (by decide))]; exact k_48
    have k_50 : σ_27 h0 8 = (σ_8 h0 8) := by rw [eσ_27, up2_nea _ _ (tg_ne th0 tbd (by decide))]; exact k_49
    have k_51 : σ_30 h0 8 = (σ_8 h0 8) := by rw [eσ_30, up2_nea _ _ (tg_ne th0 tbd (by decide))]; exact k_50
    have k_52 : σ_33 h0 8 = (σ_8 h0 8) := by rw [eσ_33, up2_nea _ _ (tg_ne th0 tbd (by decide))]; exact k_51
    have k_53 : σ_36 h0 8 = (σ_8 h0 8) := by rw [eσ_36, up2_nea _ _ (tg_ne th0 tbd (by decide))]; exact k_52
    have k_54 : σ_39 h0 8 = (σ_8 h0 8) := by rw [eσ_39, up2_nea _ _ (tg_ne th0 tbd (by decide))]; exact k_53
    have k_55 : σ_42 h0 8 = (σ_8 h0 8) := by rw [eσ_42, up2_nea _ _ (tg_ne th0 tbd (by decide))]; exact k_54
    have k_56 : σ_45 h0 8 = (σ_8 h0 8) := by rw [eσ_45, up2_nea _ _ (tg_ne th0 tbd (by decide))]; exact k_55
    have cq_57 : (σ_45 h0 8).toInt = (σ_8 h0 8).toInt := congrArg Int32.toInt k_56
    have k_58 : σ_21 h0 1 = (σ h0 1) := by rw [eσ_21, up2_nea _ _ (tg_ne th0 tbd (by decide))]; exact k_14
    have k_59 : σ_24 h0 1 = (σ h0 1) := by rw [eσ_24, up2_nea _ _ (tg_ne th0 tbd (by decide))]; exact k_58
    have k_60 : σ_27 h0 1 = (σ h0 1) := by rw [eσ_27, up2_nea _ _ (tg_ne th0 tbd (by decide))]; exact k_59
    have k_61 : σ_30 h0 1 = (σ h0 1) := by rw [eσ_30, up2_nea _ _ (tg_ne th0 tbd (by decide))]; exact k_60
    have k_62 : σ_33 h0 1 = (σ h0 1) := by rw [eσ_33, up2_nea _ _ (tg_ne th0 tbd (by decide))]; exact k_61
    have k_63 : σ_36 h0 1 = (σ h0 1) := by rw [eσ_36, up2_nea _ _ (tg_ne th0 tbd (by decide))]; exact k_62
    have k_64 : σ_39 h0 1 = (σ h0 1) := by rw [eσ_39, up2_nea _ _ (tg_ne th0 tbd (by decide))]; exact k_63
    have k_65 : σ_42 h0 1 = (σ h0 1) := by rw [eσ_42, up2_nea _ _ (tg_ne th0 tbd (by decide))]; exact k_64
    have k_66 : σ_45 h0 1 = (σ h0 1) := by rw [eσ_45, up2_nea _ _ (tg_ne th0 tbd (by decide))]; exact k_65
    have cq_67 : (σ_45 h0 1).toInt = (σ h0 1).toInt := congrArg Int32.toInt k_66
    have k_68 : σ_8 bd 1 = (σ bd 1) := (FR.at fσ_8 tbd (by decide)).trans rfl
    have k_69 : σ_21 bd 1 = (σ bd 1) := by rw [eσ_21, up2_nej _ _ (show (1 : Nat) ≠ x_20.toNatClampNeg by have hn : x_20.toNatClampNeg = x_20.toInt.toNat := rfl; omega)]; exact k_68
    have k_70 : σ_24 bd 1 = (σ bd 1) := by rw [eσ_24, up2_nej _ _ (show (1 : Nat) ≠ x_23.toNatClampNeg by have hn : x_23.toNatClampNeg = x_23.toInt.toNat := rfl; omega)]; exact k_69
    have k_71 : σ_27 bd 1 = (σ bd 1) := by rw [eσ_27, up2_nej _ _ (show (1 : Nat) ≠ x_26.toNatClampNeg by have hn : x_26.toNatClampNeg = x_26.toInt.toNat := rfl; omega)]; exact k_70
    have k_72 : σ_30 bd 1 = (σ bd 1) := by rw [eσ_30, up2_nej _ _ (show (1 : Nat) ≠ x_29.toNatClampNeg by have hn : x_29.toNatClampNeg = x_29.toInt.toNat := rfl; omega)]; exact k_71
    have k_73 : σ_33 bd 1 = (σ bd 1) := by rw [eσ_33, up2_nej _ _ (show (1 : Nat) ≠ x_32.toNatClampNeg by have hn : x_32.toNatClampNeg = x_32.toInt.toNat := rfl; omega)]; exact k_72
    have k_74 : σ_36 bd 1 = (σ bd 1) := by rw [eσ_36, up2_nej _ _ (show (1 : Nat) ≠ x_35.toNatClampNeg by have hn : x_35.toNatClampNeg = x_35.toInt.toNat := rfl; omega)]; exact k_73
    have k_75 : σ_39 bd 1 = (σ bd 1) := by rw [eσ_39, up2_nej _ _ (show (1 : Nat) ≠ x_38.toNatClampNeg by have hn : x_38.toNatClampNeg = x_38.toInt.toNat := rfl; omega)]; exact k_74
    have k_76 : σ_42 bd 1 = (σ bd 1) := by rw [eσ_42, up2_nej _ _ (show (1 : Nat) ≠ x_41.toNatClampNeg by have hn : x_41.toNatClampNeg = x_41.toInt.toNat := rfl; omega)]; exact k_75
    have k_77 : σ_45 bd 1 = (σ bd 1) := by rw [eσ_45, up2_nej _ _ (show (1 : Nat) ≠ x_44.toNatClampNeg by have hn : x_44.toNatClampNeg = x_44.toInt.toNat := rfl; omega)]; exact k_76
    have k_78 : σ_8 bd 2 = (σ bd 2) := (FR.at fσ_8 tbd (by decide)).trans rfl
    have k_79 : σ_21 bd 2 = (σ bd 2) := by rw [eσ_21, up2_nej _ _ (show (2 : Nat) ≠ x_20.toNatClampNeg by have hn : x_20.toNatClampNeg = x_20.toInt.toNat := rfl; omega)]; exact k_78
    have k_80 : σ_24 bd 2 = (σ bd 2) := by rw [eσ_24, up2_nej _ _ (show (2 : Nat) ≠ x_23.toNatClampNeg by have hn : x_23.toNatClampNeg = x_23.toInt.toNat := rfl; omega)]; exact k_79
    have k_81 : σ_27 bd 2 = (σ bd 2) := by rw [eσ_27, up2_nej _ _ (show (2 : Nat) ≠ x_26.toNatClampNeg by have hn : x_26.toNatClampNeg = x_26.toInt.toNat := rfl; omega)]; exact k_80
    have k_82 : σ_30 bd 2 = (σ bd 2) := by rw [eσ_30, up2_nej _ _ (show (2 : Nat) ≠ x_29.toNatClampNeg by have hn : x_29.toNatClampNeg = x_29.toInt.toNat := rfl; omega)]; exact k_81
    have k_83 : σ_33 bd 2 = (σ bd 2) := by rw [eσ_33, up2_nej _ _ (show (2 : Nat) ≠ x_32.toNatClampNeg by have hn : x_32.toNatClampNeg = x_32.toInt.toNat := rfl; omega)]; exact k_82
    have k_84 : σ_36 bd 2 = (σ bd 2) := by rw [eσ_36, up2_nej _ _ (show (2 : Nat) ≠ x_35.toNatClampNeg by have hn : x_35.toNatClampNeg = x_35.toInt.toNat := rfl; omega)]; exact k_83
    have k_85 : σ_39 bd 2 = (σ bd 2) := by rw [eσ_39, up2_nej _ _ (show (2 : Nat) ≠ x_38.toNatClampNeg by have hn : x_38.toNatClampNeg = x_38.toInt.toNat := rfl; omega)]; exact k_84
    have k_86 : σ_42 bd 2 = (σ bd 2) := by rw [eσ_42, up2_nej _ _ (show (2 : Nat) ≠ x_41.toNatClampNeg by have hn : x_41.toNatClampNeg = x_41.toInt.toNat := rfl; omega)]; exact k_85
    have k_87 : σ_45 bd 2 = (σ bd 2) := by rw [eσ_45, up2_nej _ _ (show (2 : Nat) ≠ x_44.toNatClampNeg by have hn : x_44.toNatClampNeg = x_44.toInt.toNat := rfl; omega)]; exact k_86
    have k_88 : σ_21 bd 3 = (σ bd 3) := by rw [eσ_21, up2_nej _ _ (show (3 : Nat) ≠ x_20.toNatClampNeg by have hn : x_20.toNatClampNeg = x_20.toInt.toNat := rfl; omega)]; exact k_16
    have k_89 : σ_24 bd 3 = (σ bd 3) := by rw [eσ_24, up2_nej _ _ (show (3 : Nat) ≠ x_23.toNatClampNeg by have hn : x_23.toNatClampNeg = x_23.toInt.toNat := rfl; omega)]; exact k_88
    have k_90 : σ_27 bd 3 = (σ bd 3) := by rw [eσ_27, up2_nej _ _ (show (3 : Nat) ≠ x_26.toNatClampNeg by have hn : x_26.toNatClampNeg = x_26.toInt.toNat := rfl; omega)]; exact k_89
    have k_91 : σ_30 bd 3 = (σ bd 3) := by rw [eσ_30, up2_nej _ _ (show (3 : Nat) ≠ x_29.toNatClampNeg by have hn : x_29.toNatClampNeg = x_29.toInt.toNat := rfl; omega)]; exact k_90
    have k_92 : σ_33 bd 3 = (σ bd 3) := by rw [eσ_33, up2_nej _ _ (show (3 : Nat) ≠ x_32.toNatClampNeg by have hn : x_32.toNatClampNeg = x_32.toInt.toNat := rfl; omega)]; exact k_91
    have k_93 : σ_36 bd 3 = (σ bd 3) := by rw [eσ_36, up2_nej _ _ (show (3 : Nat) ≠ x_35.toNatClampNeg by have hn : x_35.toNatClampNeg = x_35.toInt.toNat := rfl; omega)]; exact k_92
    have k_94 : σ_39 bd 3 = (σ bd 3) := by rw [eσ_39, up2_nej _ _ (show (3 : Nat) ≠ x_38.toNatClampNeg by have hn : x_38.toNatClampNeg = x_38.toInt.toNat := rfl; omega)]; exact k_93
    have k_95 : σ_42 bd 3 = (σ bd 3) := by rw [eσ_42, up2_nej _ _ (show (3 : Nat) ≠ x_41.toNatClampNeg by have hn : x_41.toNatClampNeg = x_41.toInt.toNat := rfl; omega)]; exact k_94
    have k_96 : σ_45 bd 3 = (σ bd 3) := by rw [eσ_45, up2_nej _ _ (show (3 : Nat) ≠ x_44.toNatClampNeg by have hn : x_44.toNatClampNeg = x_44.toInt.toNat := rfl; omega)]; exact k_95
    refine t_ci (va_runV (As := [.int x_47, .int 0, .int 99]) (rest := []) ⟨hx, hb, hml, hown, hts⟩ (cz_X12_cellHere l D cA L T r hG hLA.1 σ_45 ρ_9 hB.2.1 _ h0 mh0 th0 x_47 0 99 bt hbt mbt tbt bd hbd mbd tbd (by first | omega | decide) (by first | omega | decide) (by rw [sbF (by have hn : (x_47 : Int32).toNatClampNeg = x_47.toInt.toNat := rfl; omega)]; exact i_lo _) (by rw [sbF (by have hn : (x_47 : Int32).toNatClampNeg = x_47.toInt.toNat := rfl; omega)]; exact i_hi _)) (cV hts mv_X12_cellHere mw_6_173 rfl rfl ⟨Nat.le_of_ble_eq_true rfl, Nat.le_of_ble_eq_true rfl⟩) (pV hB.1 hK hN mh0 th0 (show shp cA 12 _ _ _ = .inr (12, Fs12 _ _ _) from rfl) rfl) rfl rfl hl.1 rfl (lv_room (Nat.le_of_ble_eq_true rfl)) dX12_isPilgrimHere_64 ⟨Nat.le_of_ble_eq_true rfl, Nat.le_of_ble_eq_true rfl⟩) hLA hA hB hS (by decide) (fun x_99 σ_97 ρ_98 H locs hB fσ_97 pσ_97 hS => ?_)
    obtain ⟨g_100, g_101, g_102⟩ := pσ_97
    have w_103 : 0 ≤ (σ_97 h0 8).toInt ∧ (σ_97 h0 8).toInt ≤ 400 := by have z := hB.2.1 h0 mh0 8; rw [th0] at z; exact z
    have k_104 : σ_97 bd 1 = (σ bd 1) := (g_102 1 (by have hn : (x_47 : Int32).toNatClampNeg = x_47.toInt.toNat := rfl; omega)).trans k_77
    have k_105 : σ_97 bd 2 = (σ bd 2) := (g_102 2 (by have hn : (x_47 : Int32).toNatClampNeg = x_47.toInt.toNat := rfl; omega)).trans k_87
    have k_106 : σ_97 bd 3 = (σ bd 3) := (g_102 3 (by have hn : (x_47 : Int32).toNatClampNeg = x_47.toInt.toNat := rfl; omega)).trans k_96
    obtain ⟨lx_99, ux_99⟩ := g_100
    have k_107 : σ_97 h0 1 = (σ h0 1) := (FR.at fσ_97 th0 (by decide)).trans k_66
    have cq_108 : (σ_97 h0 1).toInt = (σ h0 1).toInt := congrArg Int32.toInt k_107
    refine lv_if_ne (tgt := 72) hx hb dX12_isPilgrimHere_67 (by decide) (fun c_109 => ?_) (fun c_109 => ?_)
    · skip
      have uc_109 := i_ne (n := 0) (by decide) c_109
      refine lv_aload_n hx hb dX12_isPilgrimHere_72 rfl (lv_at hl 2 rfl) ?_
      refine t_gk hx hb hts hown hK hB mh0 th0 fq_12_7 hbd mw_5_223 dX12_isPilgrimHere_73 ?_
      refine lv_iconst (v := 3) hx hb dX12_isPilgrimHere_76 (by decide) ?_
      refine lv_dup2_11 hx hb dX12_isPilgrimHere_77 rfl rfl ?_
      refine t_aj hx hb hK hB mbd tbd ai_66 (i_in (by decide) (by decide)) dX12_isPilgrimHere_78 (fun x_110 ex_110 lx_110 ux_110 => ?_)
      have qx_110 : x_110 = (σ bd 3) := ex_110.trans k_106
      have qx_110 := qx_110.symm
      subst qx_110
      refine lv_iconst (v := 1) hx hb dX12_isPilgrimHere_79 (by decide) ?_
      refine lv_iadd hx hb dX12_isPilgrimHere_80 ?_
      refine lv_topi (fun x_111 ex_111 => ?_)
      have vx_111 := b_add (rfl : (σ bd 3).toInt = _) (by decide : (1 : Int32).toInt = 1) ex_111 (by omega) (by omega)
      refine t_si hx hb hK hLA hB hS mbd tbd ai_66 (i_in (by decide) (by decide)) (show (0 : Int) ≤ x_111.toInt by omega) (show x_111.toInt ≤ (4 : Int) by omega) (Or.inr (by decide)) dX12_isPilgrimHere_81 (fun H locs σ_112 eσ_112 hB hS => ?_)
      have k_113 : σ_112 bd 3 = x_111 := by rw [eσ_112]; exact up2_same _ _ _ _
      refine lv_iconst (v := 1) hx hb dX12_isPilgrimHere_82 (by decide) ?_
      have k_114 : σ_112 h0 8 = (σ_97 h0 8) := by rw [eσ_112, up2_nej _ _ (by decide)]
      exact W.zret (v := 1) hx hb hr rfl (fun t ht hW => ⟨⟨1, (σ_112, ρ_98), rfl, ⟨hB.2.1, hB.2.2, ⟨(show 0 ≤ (1 : Int32).toInt ∧ (1 : Int32).toInt ≤ 1 from ⟨by decide, by decide⟩), (show (σ h0 8).toInt ≤ (σ_112 h0 8).toInt from (by rw [k_114]; omega))⟩⟩, (show TP D cA L T r σ_112 ρ_98 t.heap from by rw [ht]; exact hB.1)⟩, hS.F ht⟩) hS.2.2 dX12_isPilgrimHere_83
    · skip
      have uc_109 := i_eq (n := 0) (by decide) c_109
      refine lv_iconst (v := 0) hx hb dX12_isPilgrimHere_70 (by decide) ?_
      exact W.zret (v := 0) hx hb hr rfl (fun t ht hW => ⟨⟨0, (σ_97, ρ_98), rfl, ⟨hB.2.1, hB.2.2, ⟨(show 0 ≤ (0 : Int32).toInt ∧ (0 : Int32).toInt ≤ 1 from ⟨by decide, by decide⟩), (show (σ h0 8).toInt ≤ (σ_97 h0 8).toInt from (by omega))⟩⟩, (show TP D cA L T r σ_97 ρ_98 t.heap from by rw [ht]; exact hB.1)⟩, hS.F ht⟩) hS.2.2 dX12_isPilgrimHere_71
  · skip
    have uc_7 := i_eq (n := 4) (by decide) c_7
    refine lv_aload_n hx hb dX12_isPilgrimHere_10 rfl (lv_at hl 0 rfl) ?_
    refine lv_iconst (v := 4) hx hb dX12_isPilgrimHere_11 (by decide) ?_
    refine lv_iload_n hx hb dX12_isPilgrimHere_12 rfl (lv_at hl 1 rfl) ?_
    refine t_ci (va_runV (As := [.int 4, .int p1]) (rest := []) ⟨hx, hb, hml, hown, hts⟩ (cy_X12_fails l D cA L T r hG hLA.1 σ ρ hB.2.1 _ h0 mh0 th0 4 p1 (by first | omega | decide) (by first | omega | decide) (by first | omega | decide) (by first | omega | decide)) (cV hts mv_X12_fails mw_6_157 rfl rfl ⟨Nat.le_of_ble_eq_true rfl, Nat.le_of_ble_eq_true rfl⟩) (pV hB.1 hK hN mh0 th0 (show shp cA 12 _ _ _ = .inr (12, Fs12 _ _ _) from rfl) rfl) rfl rfl hl.1 rfl (lv_room (Nat.le_of_ble_eq_true rfl)) dX12_isPilgrimHere_13 ⟨Nat.le_of_ble_eq_true rfl, Nat.le_of_ble_eq_true rfl⟩) hLA hA hB hS (by decide) (fun x_117 σ_115 ρ_116 H locs hB fσ_115 pσ_115 hS => ?_)
    subst pσ_115
    have k_118 : σ_115 h0 8 = (σ h0 8) := (FR.at fσ_115 th0 (by decide)).trans rfl
    have cq_119 : (σ_115 h0 8).toInt = (σ h0 8).toInt := congrArg Int32.toInt k_118
    have k_120 : σ_115 h0 1 = (σ h0 1) := (FR.at fσ_115 th0 (by decide)).trans rfl
    have cq_121 : (σ_115 h0 1).toInt = (σ h0 1).toInt := congrArg Int32.toInt k_120
    exact W.zret (v := 0) hx hb hr rfl (fun t ht hW => ⟨⟨0, (σ_115, ρ_116), rfl, ⟨hB.2.1, hB.2.2, ⟨(show 0 ≤ (0 : Int32).toInt ∧ (0 : Int32).toInt ≤ 1 from ⟨by decide, by decide⟩), (show (σ h0 8).toInt ≤ (σ_115 h0 8).toInt from (by rw [k_118]; omega))⟩⟩, (show TP D cA L T r σ_115 ρ_116 t.heap from by rw [ht]; exact hB.1)⟩, hS.F ht⟩) hS.2.2 dX12_isPilgrimHere_16
