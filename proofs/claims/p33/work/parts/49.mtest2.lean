theorem mw_7_37 : (.instanceMethod yX12_settles : Cond) ∈ wsA := wsA_t (List.mem_append_right _ (List.mem_append_right _ (List.mem_append_right _ (List.mem_append_right _ (List.mem_append_right _ (List.mem_append_right _ (List.mem_append_left _ (List.mem_of_getElem? (l := tables_1_7) (i := 37) rfl)))))))) rfl
theorem mp_5_11 : (.selects RX12 yX12_settles yX12_settles : Cond) ∈ wsA := wsA_p (q := (yX12_settles, 44)) (List.mem_append_right _ (List.mem_append_right _ (List.mem_append_right _ (List.mem_append_right _ (List.mem_append_left _ (List.mem_of_getElem? (l := lw_privs_5) (i := 11) rfl))))))
theorem mw_7_38 : (.code yX12_settles cX12_settles 2 none : Cond) ∈ wsA := wsA_t (List.mem_append_right _ (List.mem_append_right _ (List.mem_append_right _ (List.mem_append_right _ (List.mem_append_right _ (List.mem_append_right _ (List.mem_append_left _ (List.mem_of_getElem? (l := tables_1_7) (i := 38) rfl)))))))) rfl
theorem mw_7_35 : (.methodLink RX12 202 yX12_settles : Cond) ∈ wsA := wsA_t (List.mem_append_right _ (List.mem_append_right _ (List.mem_append_right _ (List.mem_append_right _ (List.mem_append_right _ (List.mem_append_right _ (List.mem_append_left _ (List.mem_of_getElem? (l := tables_1_7) (i := 35) rfl)))))))) rfl
theorem mw_7_44 : (.instanceMethod yX12_isInside : Cond) ∈ wsA := wsA_t (List.mem_append_right _ (List.mem_append_right _ (List.mem_append_right _ (List.mem_append_right _ (List.mem_append_right _ (List.mem_append_right _ (List.mem_append_left _ (List.mem_of_getElem? (l := tables_1_7) (i := 44) rfl)))))))) rfl
theorem mp_5_12 : (.selects RX12 yX12_isInside yX12_isInside : Cond) ∈ wsA := wsA_p (q := (yX12_isInside, 44)) (List.mem_append_right _ (List.mem_append_right _ (List.mem_append_right _ (List.mem_append_right _ (List.mem_append_left _ (List.mem_of_getElem? (l := lw_privs_5) (i := 12) rfl))))))
theorem mw_7_45 : (.code yX12_isInside cX12_isInside 2 (some .boolean) : Cond) ∈ wsA := wsA_t (List.mem_append_right _ (List.mem_append_right _ (List.mem_append_right _ (List.mem_append_right _ (List.mem_append_right _ (List.mem_append_right _ (List.mem_append_left _ (List.mem_of_getElem? (l := tables_1_7) (i := 45) rfl)))))))) rfl
theorem mw_7_42 : (.methodLink RX12 205 yX12_isInside : Cond) ∈ wsA := wsA_t (List.mem_append_right _ (List.mem_append_right _ (List.mem_append_right _ (List.mem_append_right _ (List.mem_append_right _ (List.mem_append_right _ (List.mem_append_left _ (List.mem_of_getElem? (l := tables_1_7) (i := 42) rfl)))))))) rfl
theorem dX12_closes_0 : decode cX12_closes 0 = .ok (.aload_n 0, 1) := by decide +kernel
theorem dX12_closes_1 : decode cX12_closes 1 = .ok (.iconst 3, 1) := by decide +kernel
theorem dX12_closes_2 : decode cX12_closes 2 = .ok (.invokevirtual 202, 3) := by decide +kernel
theorem dX12_closes_5 : decode cX12_closes 5 = .ok (.aload_n 0, 1) := by decide +kernel
theorem dX12_closes_6 : decode cX12_closes 6 = .ok (.invokevirtual 105, 3) := by decide +kernel
theorem dX12_closes_9 : decode cX12_closes 9 = .ok (.bipush 93, 2) := by decide +kernel
theorem dX12_closes_11 : decode cX12_closes 11 = .ok (.if_icmp .ne 53, 3) := by decide +kernel
theorem dX12_closes_14 : decode cX12_closes 14 = .ok (.aload_n 0, 1) := by decide +kernel
theorem dX12_closes_15 : decode cX12_closes 15 = .ok (.invokevirtual 205, 3) := by decide +kernel
theorem dX12_closes_18 : decode cX12_closes 18 = .ok (.ifCond .eq 46, 3) := by decide +kernel
theorem dX12_closes_21 : decode cX12_closes 21 = .ok (.aload_n 0, 1) := by decide +kernel
theorem dX12_closes_22 : decode cX12_closes 22 = .ok (.iconst 1, 1) := by decide +kernel
theorem dX12_closes_23 : decode cX12_closes 23 = .ok (.invokevirtual 202, 3) := by decide +kernel
theorem dX12_closes_26 : decode cX12_closes 26 = .ok (.aload_n 0, 1) := by decide +kernel
theorem dX12_closes_27 : decode cX12_closes 27 = .ok (.dup, 1) := by decide +kernel
theorem dX12_closes_28 : decode cX12_closes 28 = .ok (.getfield 163, 3) := by decide +kernel
theorem dX12_closes_31 : decode cX12_closes 31 = .ok (.iconst 1, 1) := by decide +kernel
theorem dX12_closes_32 : decode cX12_closes 32 = .ok (.isub, 1) := by decide +kernel
theorem dX12_closes_33 : decode cX12_closes 33 = .ok (.putfield 163, 3) := by decide +kernel
theorem dX12_closes_36 : decode cX12_closes 36 = .ok (.aload_n 0, 1) := by decide +kernel
theorem dX12_closes_37 : decode cX12_closes 37 = .ok (.dup, 1) := by decide +kernel
theorem dX12_closes_38 : decode cX12_closes 38 = .ok (.getfield 160, 3) := by decide +kernel
theorem dX12_closes_41 : decode cX12_closes 41 = .ok (.iconst 1, 1) := by decide +kernel
theorem dX12_closes_42 : decode cX12_closes 42 = .ok (.isub, 1) := by decide +kernel
theorem dX12_closes_43 : decode cX12_closes 43 = .ok (.putfield 160, 3) := by decide +kernel
theorem dX12_closes_46 : decode cX12_closes 46 = .ok (.aload_n 0, 1) := by decide +kernel
theorem dX12_closes_47 : decode cX12_closes 47 = .ok (.dup, 1) := by decide +kernel
theorem dX12_closes_48 : decode cX12_closes 48 = .ok (.getfield 102, 3) := by decide +kernel
theorem dX12_closes_51 : decode cX12_closes 51 = .ok (.iconst 1, 1) := by decide +kernel
theorem dX12_closes_52 : decode cX12_closes 52 = .ok (.iadd, 1) := by decide +kernel
theorem dX12_closes_53 : decode cX12_closes 53 = .ok (.putfield 102, 3) := by decide +kernel
theorem dX12_closes_56 : decode cX12_closes 56 = .ok (.aload_n 0, 1) := by decide +kernel
theorem dX12_closes_57 : decode cX12_closes 57 = .ok (.iconst 3, 1) := by decide +kernel
theorem dX12_closes_58 : decode cX12_closes 58 = .ok (.invokevirtual 202, 3) := by decide +kernel
theorem dX12_closes_61 : decode cX12_closes 61 = .ok (.goto (-56), 3) := by decide +kernel
theorem dX12_closes_64 : decode cX12_closes 64 = .ok (.return_, 1) := by decide +kernel
theorem mv_X12_settles : MV RX12 yX12_settles cX12_settles 2 none 1 := ⟨mw_7_37, mp_5_11, mw_1_13, mw_7_38, ⟨rfl, by decide, by decide, by decide +kernel⟩⟩
theorem mv_X12_isInside : MV RX12 yX12_isInside cX12_isInside 2 (some .boolean) 0 := ⟨mw_7_44, mp_5_12, mw_1_13, mw_7_45, ⟨rfl, by decide, by decide, by decide +kernel⟩⟩
set_option maxHeartbeats 4000000 in
set_option maxRecDepth 100000 in
theorem cz_X12_closes (l : Launch) (D : va_G) (cA : Nat → ClassId) (L : List Nat) (T : Nat → Nat) (r : Rg) (hG : GR L T r) (hL : L.Nodup) (σ : Sg) (ρ : Lg) (hW : WT L ry T σ) (sz : Nat) (h0 : Nat) (mh0 : h0 ∈ L) (th0 : T h0 = 12) (bt : Nat) (hbt : r h0 0 = some bt) (mbt : bt ∈ L) (tbt : T bt = 61) (bg : Nat) (hbg : r h0 3 = some bg) (mbg : bg ∈ L) (tbg : T bg = 62) (bl : Nat) (hbl : r h0 4 = some bl) (mbl : bl ∈ L) (tbl : T bl = 63) (bo : Nat) (hbo : r h0 15 = some bo) (mbo : bo ∈ L) (tbo : T bo = 67) (tx : Int32) (k0 : σ h0 11 = tx) (w0 : 0 ≤ tx.toInt) (w1 : tx.toInt ≤ 5) (w2 : Nat) (w3 : TV σ h0 bg bl bo tx w2 1) : Met l yX12_closes (.code yX12_closes cX12_closes 1 none :: wsA) ({ frames := 2, cells := 0, slots := 0, locals := 43 }) (PR D cA L T r σ ρ sz [.ref h0]) (QV D cA L T r ry [(12, 8), (12, 13), (12, 16), (62, 1000), (63, 1000)] σ sz (fun σ1 => ((σ h0 8).toInt ≤ (σ1 h0 8).toInt) ∧ (EX (σ bg) (σ bl) (σ1 bg) (σ1 bl) tx) ∧ (TV σ1 h0 bg bl bo tx w2 1))) 0 0 (dm L sz) := by
  refine Met.ofW (cc := cX12_closes) (maxL := 1) (ret := none) (by decide) rfl ?_
  intro p e s m args below meth c s₁ B hml hv
  obtain ⟨rfl, hsz, hP, hK, hN⟩ := hv
  have hx := B.exec
  have hb := B.bytes
  have hr := B.returns
  have hts : ∀ w ∈ wsA, w.before _ s = true := fun w h => atoms_spec (ws := .code yX12_closes cX12_closes 1 none :: wsA) B.pre w (List.mem_cons_of_mem _ h)
  have hown : s.vm.findClass RX12 = some m.cls := findClass_of_methodNamed B.named
  subst hsz
  have hLA : LA (dm L s.heap.size) L := ⟨hL, fun a h => Or.inl h⟩
  have hA : ∀ q : Nat, s.heap.size ≤ q → dm L s.heap.size q := fun q h => Or.inr h
  have hS : va_S (dm L s.heap.size) s.heap s.heap [] := va_S.rf
  have hB : TS D cA L T r ry [(12, 8), (12, 13), (12, 16), (62, 1000), (63, 1000)] σ σ ρ s.heap := ⟨hP, hW, FR.rf⟩
  have hl := lv_entry ([.ref h0]) (n := 1) (Nat.le_of_ble_eq_true rfl)
  rw [lg_entry_eq]
  generalize (lg_sl ([.ref h0]) ++ List.replicate (1 - (lg_sl ([.ref h0])).length) Slot.unset).toArray = ls at hl ⊢
  have hl : lv_has ls 1 [(0, .ref h0)] := hl
  have w_1 : 0 ≤ (σ h0 8).toInt ∧ (σ h0 8).toInt ≤ 400 := by have z := hB.2.1 h0 mh0 8; rw [th0] at z; exact z
  have w_2 : 0 ≤ (σ h0 1).toInt ∧ (σ h0 1).toInt ≤ 400 := by have z := hB.2.1 h0 mh0 1; rw [th0] at z; exact z
  have w_3 : 0 ≤ (σ h0 12).toInt ∧ (σ h0 12).toInt ≤ 60 := by have z := hB.2.1 h0 mh0 12; rw [th0] at z; exact z
  have w_4 : 0 ≤ (σ h0 16).toInt ∧ (σ h0 16).toInt ≤ 400 := by have z := hB.2.1 h0 mh0 16; rw [th0] at z; exact z
  have w_5 : 0 ≤ (σ bl tx.toNatClampNeg).toInt ∧ (σ bl tx.toNatClampNeg).toInt ≤ 400 := by have z := hB.2.1 bl mbl tx.toNatClampNeg; rw [tbl] at z; exact z
  have tn0 := w3.2.2.2
  refine lv_aload_n hx hb dX12_closes_0 rfl (lv_at hl 0 rfl) ?_
  refine lv_iconst (v := 3) hx hb dX12_closes_1 (by decide) ?_
  refine t_cv (va_runV (As := [.int 3]) (rest := []) ⟨hx, hb, hml, hown, hts⟩ (cz_X12_settles l D cA L T r hG hLA.1 σ ρ hB.2.1 _ h0 mh0 th0 3 bg hbg mbg tbg bl hbl mbl tbl bo hbo mbo tbo tx k0 (by first | omega | decide) (by first | omega | decide) w2 w3 (by first | omega | decide)) (cV hts mv_X12_settles mw_7_35 rfl rfl ⟨Nat.le_of_ble_eq_true rfl, Nat.le_of_ble_eq_true rfl⟩) (pV hB.1 hK hN mh0 th0 (show shp cA 12 _ _ _ = .inr (12, Fs12 _ _ _) from rfl) rfl) rfl rfl hl.1 rfl (lv_room (Nat.le_of_ble_eq_true rfl)) dX12_closes_2 ⟨Nat.le_of_ble_eq_true rfl, Nat.le_of_ble_eq_true rfl⟩) hLA hA hB hS (by decide) (fun σ_6 ρ_7 H locs hB fσ_6 pσ_6 hS => ?_)
  obtain ⟨g_9, g_10, g_11, g_12, g_13, g_14⟩ := pσ_6
  have w_15 : 0 ≤ (σ_6 bl tx.toNatClampNeg).toInt ∧ (σ_6 bl tx.toNatClampNeg).toInt ≤ 400 := by have z := hB.2.1 bl mbl tx.toNatClampNeg; rw [tbl] at z; exact z
  have k_16 : σ_6 h0 8 = (σ h0 8) := (FR.at fσ_6 th0 (by decide)).trans rfl
  have k_17 : σ_6 h0 12 = (σ h0 12) := (FR.at fσ_6 th0 (by decide)).trans rfl
  have ex_18 := EX.tr EX.rf g_9
  have w_19 : 0 ≤ (σ_6 h0 16).toInt ∧ (σ_6 h0 16).toInt ≤ 400 := by have z := hB.2.1 h0 mh0 16; rw [th0] at z; exact z
  have tn_20 := g_10.2.2.2
  have cq_21 : (σ_6 h0 8).toInt = (σ h0 8).toInt := congrArg Int32.toInt k_16
  have k_22 : σ_6 h0 1 = (σ h0 1) := (FR.at fσ_6 th0 (by decide)).trans rfl
  have cq_23 : (σ_6 h0 1).toInt = (σ h0 1).toInt := congrArg Int32.toInt k_22
  have cq_24 : (σ_6 h0 12).toInt = (σ h0 12).toInt := congrArg Int32.toInt k_17
  have k_25 : σ_6 h0 11 = tx := (FR.at fσ_6 th0 (by decide)).trans k0
  refine w_loop (α := Sg × Lg) (fun (σ_26, ρ_27) H locs ls => σ_26 h0 11 = tx ∧ σ_26 h0 1 = (σ h0 1) ∧ σ_26 h0 12 = (σ h0 12) ∧ (EX (σ bg) (σ bl) (σ_26 bg) (σ_26 bl) tx) ∧ (TV σ_26 h0 bg bl bo tx w2 1) ∧ ((σ h0 8).toInt ≤ (σ_26 h0 8).toInt) ∧ TS D cA L T r ry [(12, 8), (12, 13), (12, 16), (62, 1000), (63, 1000)] σ σ_26 ρ_27 H ∧ va_S (dm L s.heap.size) s.heap H locs ∧ lv_has ls 1 [(0, .ref h0)]) (fun (σ_26, ρ_27) => (400 - (σ_26 h0 8).toInt).toNat) ?_ ⟨σ_6, ρ_7⟩ ⟨k_25, k_22, k_17, ex_18, g_10, (by rw [k_16]; omega), hB, hS, lv_sub hl [0] rfl⟩
  rintro ⟨σ_26, ρ_27⟩ H locs ls ⟨k_29, k_30, k_31, g_32, g_33, g_34, hB, hS, hl⟩ ih_28
  have w_35 : 0 ≤ (σ_26 h0 16).toInt ∧ (σ_26 h0 16).toInt ≤ 400 := by have z := hB.2.1 h0 mh0 16; rw [th0] at z; exact z
  have w_36 : 0 ≤ (σ_26 h0 8).toInt ∧ (σ_26 h0 8).toInt ≤ 400 := by have z := hB.2.1 h0 mh0 8; rw [th0] at z; exact z
  have w_37 : 0 ≤ (σ_26 bl tx.toNatClampNeg).toInt ∧ (σ_26 bl tx.toNatClampNeg).toInt ≤ 400 := by have z := hB.2.1 bl mbl tx.toNatClampNeg; rw [tbl] at z; exact z
  have tn1 := g_33.2.2.2
  have cq_38 := congrArg Int32.toInt k_30
  refine lv_aload_n hx hb dX12_closes_5 rfl (lv_at hl 0 rfl) ?_
  have cq_39 : (σ_26 h0 1).toInt = (σ h0 1).toInt := congrArg Int32.toInt k_30
  have cq_40 : (σ_26 h0 12).toInt = (σ h0 12).toInt := congrArg Int32.toInt k_31
  refine t_ci (va_runV (As := []) (rest := []) ⟨hx, hb, hml, hown, hts⟩ (cz_X12_see l D cA L T r hG hLA.1 σ_26 ρ_27 hB.2.1 _ h0 mh0 th0 bt hbt mbt tbt) (cV hts mv_X12_see mw_6_134 rfl rfl ⟨Nat.le_of_ble_eq_true rfl, Nat.le_of_ble_eq_true rfl⟩) (pV hB.1 hK hN mh0 th0 (show shp cA 12 _ _ _ = .inr (12, Fs12 _ _ _) from rfl) rfl) rfl rfl hl.1 rfl (lv_room (Nat.le_of_ble_eq_true rfl)) dX12_closes_6 ⟨Nat.le_of_ble_eq_true rfl, Nat.le_of_ble_eq_true rfl⟩) hLA hA hB hS (by decide) (fun x_43 σ_41 ρ_42 H locs hB fσ_41 pσ_41 hS => ?_)
  obtain ⟨g_44, g_45, g_46, g_47⟩ := pσ_41
  have w_48 : 0 ≤ (σ_41 h0 8).toInt ∧ (σ_41 h0 8).toInt ≤ 400 := by have z := hB.2.1 h0 mh0 8; rw [th0] at z; exact z
  obtain ⟨lx_43, ux_43⟩ := g_44
  have k_49 : σ_41 h0 1 = (σ h0 1) := (FR.at fσ_41 th0 (by decide)).trans k_30
  have cq_50 : (σ_41 h0 1).toInt = (σ h0 1).toInt := congrArg Int32.toInt k_49
  have k_51 : σ_41 h0 12 = (σ h0 12) := (FR.at fσ_41 th0 (by decide)).trans k_31
  have cq_52 : (σ_41 h0 12).toInt = (σ h0 12).toInt := congrArg Int32.toInt k_51
  have k_53 : σ_41 h0 16 = (σ_26 h0 16) := (FR.at fσ_41 th0 (by decide)).trans rfl
  have cq_54 : (σ_41 h0 16).toInt = (σ_26 h0 16).toInt := congrArg Int32.toInt k_53
  have k_55 : σ_41 bl tx.toNatClampNeg = (σ_26 bl tx.toNatClampNeg) := (FR.at fσ_41 tbl (by simp)).trans rfl
  have cq_56 : (σ_41 bl tx.toNatClampNeg).toInt = (σ_26 bl tx.toNatClampNeg).toInt := congrArg Int32.toInt k_55
  refine lv_bipush (v := 93) hx hb dX12_closes_9 (by decide) ?_
  refine lv_icmp_ne (tgt := 64) hx hb dX12_closes_11 (by decide) (fun c_57 => ?_) (fun c_57 => ?_)
  · skip
    have uc_57 := i_ne (n := 93) (by decide) c_57
    have k_58 := FR.row fσ_41 tbg (fun j => by simp)
    have k_59 := FR.row fσ_41 tbl (fun j => by simp)
    have ex_60 : EX (σ bg) (σ bl) (σ_41 bg) (σ_41 bl) tx := by rw [(k_58), (k_59)]; exact g_32
    have k_62 := FR.row fσ_41 tbg (fun j => by simp)
    have k_63 := FR.row fσ_41 tbl (fun j => by simp)
    have k_64 := FR.row fσ_41 tbo (fun j => by simp)
    have TW_61 : TV σ_41 h0 bg bl bo tx w2 1 := TV.fr g_33 (k_62) (k_63) (k_64) (k_53) (by rw [k_51, k_31]; omega) (by omega)
    have TW_61n := TW_61.2.2.2
    exact W.vret hx hb hr (fun t ht hW => ⟨⟨(σ_41, ρ_42), rfl, ⟨hB.2.1, hB.2.2, ⟨(show (σ h0 8).toInt ≤ (σ_41 h0 8).toInt from (by omega)), (show EX (σ bg) (σ bl) (σ_41 bg) (σ_41 bl) tx from ex_60), (show TV σ_41 h0 bg bl bo tx w2 1 from TW_61)⟩⟩, (show TP D cA L T r σ_41 ρ_42 t.heap from by rw [ht]; exact hB.1)⟩, hS.F ht⟩) hS.2.2 dX12_closes_64
  · skip
    have uc_57 := i_eq (n := 93) (by decide) c_57
    refine lv_aload_n hx hb dX12_closes_14 rfl (lv_at hl 0 rfl) ?_
    refine t_ci (va_runV (As := []) (rest := []) ⟨hx, hb, hml, hown, hts⟩ (cz_X12_isInside l D cA L T r hG hLA.1 σ_41 ρ_42 hB.2.1 _ h0 mh0 th0 bo hbo mbo tbo) (cV hts mv_X12_isInside mw_7_42 rfl rfl ⟨Nat.le_of_ble_eq_true rfl, Nat.le_of_ble_eq_true rfl⟩) (pV hB.1 hK hN mh0 th0 (show shp cA 12 _ _ _ = .inr (12, Fs12 _ _ _) from rfl) rfl) rfl rfl hl.1 rfl (lv_room (Nat.le_of_ble_eq_true rfl)) dX12_closes_15 ⟨Nat.le_of_ble_eq_true rfl, Nat.le_of_ble_eq_true rfl⟩) hLA hA hB hS (by decide) (fun x_67 σ_65 ρ_66 H locs hB fσ_65 pσ_65 hS => ?_)
    have qσ_65 := FR.nil fσ_65
    subst qσ_65
    obtain ⟨g_68, g_69⟩ := pσ_65
    obtain ⟨lx_67, ux_67⟩ := g_68
    refine lv_if_eq (tgt := 64) hx hb dX12_closes_18 (by decide) (fun c_70 => ?_) (fun c_70 => ?_)
    · skip
      have uc_70 := i_eq (n := 0) (by decide) c_70
      have k_71 := FR.row fσ_41 tbg (fun j => by simp)
      have k_72 := FR.row fσ_41 tbl (fun j => by simp)
      have ex_73 : EX (σ bg) (σ bl) (σ_41 bg) (σ_41 bl) tx := by rw [(k_71), (k_72)]; exact g_32
      have k_75 := FR.row fσ_41 tbg (fun j => by simp)
      have k_76 := FR.row fσ_41 tbl (fun j => by simp)
      have k_77 := FR.row fσ_41 tbo (fun j => by simp)
      have TW_74 : TV σ_41 h0 bg bl bo tx w2 1 := TV.fr g_33 (k_75) (k_76) (k_77) (k_53) (by rw [k_51, k_31]; omega) (by omega)
      have TW_74n := TW_74.2.2.2
      exact W.vret hx hb hr (fun t ht hW => ⟨⟨(σ_41, ρ_66), rfl, ⟨hB.2.1, hB.2.2, ⟨(show (σ h0 8).toInt ≤ (σ_41 h0 8).toInt from (by omega)), (show EX (σ bg) (σ bl) (σ_41 bg) (σ_41 bl) tx from ex_73), (show TV σ_41 h0 bg bl bo tx w2 1 from TW_74)⟩⟩, (show TP D cA L T r σ_41 ρ_66 t.heap from by rw [ht]; exact hB.1)⟩, hS.F ht⟩) hS.2.2 dX12_closes_64
    · skip
      have uc_70 := i_ne (n := 0) (by decide) c_70
      refine lv_aload_n hx hb dX12_closes_21 rfl (lv_at hl 0 rfl) ?_
      refine lv_iconst (v := 1) hx hb dX12_closes_22 (by decide) ?_
      have k_78 : σ_41 h0 11 = tx := (FR.at fσ_41 th0 (by decide)).trans k_29
      have k_80 := FR.row fσ_41 tbg (fun j => by simp)
      have k_81 := FR.row fσ_41 tbl (fun j => by simp)
      have k_82 := FR.row fσ_41 tbo (fun j => by simp)
      have TW_79 : TV σ_41 h0 bg bl bo tx w2 1 := TV.fr g_33 (k_80) (k_81) (k_82) (k_53) (by rw [k_51, k_31]; omega) (by omega)
      have TW_79n := TW_79.2.2.2
      refine t_cv (va_runV (As := [.int 1]) (rest := []) ⟨hx, hb, hml, hown, hts⟩ (cz_X12_settles l D cA L T r hG hLA.1 σ_41 ρ_66 hB.2.1 _ h0 mh0 th0 1 bg hbg mbg tbg bl hbl mbl tbl bo hbo mbo tbo tx k_78 (by first | omega | decide) (by first | omega | decide) w2 TW_79 (by first | omega | decide)) (cV hts mv_X12_settles mw_7_35 rfl rfl ⟨Nat.le_of_ble_eq_true rfl, Nat.le_of_ble_eq_true rfl⟩) (pV hB.1 hK hN mh0 th0 (show shp cA 12 _ _ _ = .inr (12, Fs12 _ _ _) from rfl) rfl) rfl rfl hl.1 rfl (lv_room (Nat.le_of_ble_eq_true rfl)) dX12_closes_23 ⟨Nat.le_of_ble_eq_true rfl, Nat.le_of_ble_eq_true rfl⟩) hLA hA hB hS (by decide) (fun σ_83 ρ_84 H locs hB fσ_83 pσ_83 hS => ?_)
      obtain ⟨g_86, g_87, g_88, g_89, g_90, g_91⟩ := pσ_83
      have w_92 : 0 ≤ (σ_83 bl tx.toNatClampNeg).toInt ∧ (σ_83 bl tx.toNatClampNeg).toInt ≤ 400 := by have z := hB.2.1 bl mbl tx.toNatClampNeg; rw [tbl] at z; exact z
      have k_93 : σ_83 h0 8 = (σ_41 h0 8) := (FR.at fσ_83 th0 (by decide)).trans rfl
      have k_94 : σ_83 h0 12 = (σ h0 12) := (FR.at fσ_83 th0 (by decide)).trans k_51
      have k_95 := FR.row fσ_41 tbg (fun j => by simp)
      have k_96 := FR.row fσ_41 tbl (fun j => by simp)
      have ex_97 : EX (σ bg) (σ bl) (σ_41 bg) (σ_41 bl) tx := by rw [(k_95), (k_96)]; exact g_32
      have ex_98 := EX.tr ex_97 g_86
      have w_99 : 0 ≤ (σ_83 h0 16).toInt ∧ (σ_83 h0 16).toInt ≤ 400 := by have z := hB.2.1 h0 mh0 16; rw [th0] at z; exact z
      have tn_100 := g_87.2.2.2
      have cq_101 : (σ_83 h0 8).toInt = (σ_41 h0 8).toInt := congrArg Int32.toInt k_93
      have k_102 : σ_83 h0 1 = (σ h0 1) := (FR.at fσ_83 th0 (by decide)).trans k_49
      have cq_103 : (σ_83 h0 1).toInt = (σ h0 1).toInt := congrArg Int32.toInt k_102
      have cq_104 : (σ_83 h0 12).toInt = (σ h0 12).toInt := congrArg Int32.toInt k_94
      have hj5 : 1 ≤ (σ_83 h0 16).toInt := by by_cases e : 1 ≤ (σ_83 h0 16).toInt; (exact e); (exfalso; exact g_69.1 (by omega) (fun jb hj1 hj2 => by have hj3 := g_89 jb hj1 hj2; omega))
      have hj4 := g_91 (by decide)
      clear g_69
      refine lv_aload_n hx hb dX12_closes_26 rfl (lv_at hl 0 rfl) ?_
      refine lv_dup hx hb dX12_closes_27 rfl ?_
      refine t_gv hx hb hts hown hK hB mh0 th0 fi_12_16 rfl mw_5_232 dX12_closes_28 ?_
      refine lv_iconst (v := 1) hx hb dX12_closes_31 (by decide) ?_
      refine lv_isub hx hb dX12_closes_32 ?_
      refine lv_topi (fun x_105 ex_105 => ?_)
      have vx_105 := b_sub (rfl : (σ_83 h0 16).toInt = _) (by decide : (1 : Int32).toInt = 1) ex_105 (by omega) (by omega)
      refine t_pi hx hb hts hown hK hLA hB hS mh0 th0 fi_12_16 rfl rfl rfl (by first | omega | (subst_vars; omega)) (by first | omega | (subst_vars; omega)) (Or.inl (by decide)) mw_5_232 dX12_closes_33 (fun H locs σ_106 eσ_106 hB hS => ?_)
      have k_107 : σ_106 h0 16 = x_105 := by rw [eσ_106]; exact up2_same _ _ _ _
      refine lv_aload_n hx hb dX12_closes_36 rfl (lv_at hl 0 rfl) ?_
      refine lv_dup hx hb dX12_closes_37 rfl ?_
      refine t_gi hx hb hts hown hK hB mh0 th0 fi_12_13 rfl mw_5_229 dX12_closes_38 (fun x_108 ex_108 lx_108 ux_108 => ?_)
      have cx_108 := congrArg Int32.toInt ex_108
      refine lv_iconst (v := 1) hx hb dX12_closes_41 (by decide) ?_
      refine lv_isub hx hb dX12_closes_42 ?_
      refine lv_topi (fun x_109 ex_109 => ?_)
      try have vx_109 := b_sub (rfl : x_108.toInt = _) (by decide : (1 : Int32).toInt = 1) ex_109 (by omega) (by omega)
      refine t_pi hx hb hts hown hK hLA hB hS mh0 th0 fi_12_13 rfl rfl rfl (i_lo _) (i_hi _) (Or.inl (by decide)) mw_5_229 dX12_closes_43 (fun H locs σ_110 eσ_110 hB hS => ?_)
      have k_111 : σ_110 h0 13 = x_109 := by rw [eσ_110]; exact up2_same _ _ _ _
      refine lv_aload_n hx hb dX12_closes_46 rfl (lv_at hl 0 rfl) ?_
      refine lv_dup hx hb dX12_closes_47 rfl ?_
      have k_112 : σ_106 h0 8 = (σ_41 h0 8) := by rw [eσ_106, up2_nej _ _ (by decide)]; exact k_93
      have k_113 : σ_110 h0 8 = (σ_41 h0 8) := by rw [eσ_110, up2_nej _ _ (by decide)]; exact k_112
      refine t_gv hx hb hts hown hK hB mh0 th0 fi_12_8 k_113 mw_5_224 dX12_closes_48 ?_
      refine lv_iconst (v := 1) hx hb dX12_closes_51 (by decide) ?_
      refine lv_iadd hx hb dX12_closes_52 ?_
      refine lv_topi (fun x_114 ex_114 => ?_)
      have vx_114 := b_add (rfl : (σ_41 h0 8).toInt = _) (by decide : (1 : Int32).toInt = 1) ex_114 (by omega) (by omega)
      refine t_pi hx hb hts hown hK hLA hB hS mh0 th0 fi_12_8 rfl rfl rfl (by first | omega | (subst_vars; omega)) (by first | omega | (subst_vars; omega)) (Or.inl (by decide)) mw_5_224 dX12_closes_53 (fun H locs σ_115 eσ_115 hB hS => ?_)
      have k_116 : σ_115 h0 8 = x_114 := by rw [eσ_115]; exact up2_same _ _ _ _
      have k_117a := congrFun eσ_106 bg
      rw [up2_row _ _ (tg_ne tbg th0 (by decide))] at k_117a
      have k_118a := congrFun eσ_110 bg
      rw [up2_row _ _ (tg_ne tbg th0 (by decide))] at k_118a
      have k_119a := congrFun eσ_115 bg
      rw [up2_row _ _ (tg_ne tbg th0 (by decide))] at k_119a
      have k_120a := congrFun eσ_106 bl
      rw [up2_row _ _ (tg_ne tbl th0 (by decide))] at k_120a
      have k_121a := congrFun eσ_110 bl
      rw [up2_row _ _ (tg_ne tbl th0 (by decide))] at k_121a
      have k_122a := congrFun eσ_115 bl
      rw [up2_row _ _ (tg_ne tbl th0 (by decide))] at k_122a
      have k_123a := congrFun eσ_106 bo
      rw [up2_row _ _ (tg_ne tbo th0 (by decide))] at k_123a
      have k_124a := congrFun eσ_110 bo
      rw [up2_row _ _ (tg_ne tbo th0 (by decide))] at k_124a
      have k_125a := congrFun eσ_115 bo
      rw [up2_row _ _ (tg_ne tbo th0 (by decide))] at k_125a
      have k_126 : σ_110 h0 16 = x_105 := by rw [eσ_110, up2_nej _ _ (by decide)]; exact k_107
      have k_127 : σ_115 h0 16 = x_105 := by rw [eσ_115, up2_nej _ _ (by decide)]; exact k_126
      have k_128 : σ_106 h0 12 = (σ h0 12) := by rw [eσ_106, up2_nej _ _ (by decide)]; exact k_94
      have k_129 : σ_110 h0 12 = (σ h0 12) := by rw [eσ_110, up2_nej _ _ (by decide)]; exact k_128
      have k_130 : σ_115 h0 12 = (σ h0 12) := by rw [eσ_115, up2_nej _ _ (by decide)]; exact k_129
      have TC1 : TV σ_115 h0 bg bl bo tx w2 1 := TV.cl g_87 (by omega) (by omega) ((k_119a).trans ((k_118a).trans (k_117a))) ((k_122a).trans ((k_121a).trans (k_120a))) ((k_125a).trans ((k_124a).trans (k_123a))) (by rw [k_127]; omega) ((k_130).trans (k_94).symm) (by rw [k_116]; omega)
      have tcn := TC1.2.2.2
      clear hj4
      have cn1 : (σ_26 h0 8).toInt < x_114.toInt := by omega
      have cn2 : x_114.toInt ≤ 400 := by omega
      refine lv_aload_n hx hb dX12_closes_56 rfl (lv_at hl 0 rfl) ?_
      refine lv_iconst (v := 3) hx hb dX12_closes_57 (by decide) ?_
      have cq_131 : (σ_115 h0 8).toInt = x_114.toInt := congrArg Int32.toInt k_116
      have k_132 : σ_106 h0 1 = (σ h0 1) := by rw [eσ_106, up2_nej _ _ (by decide)]; exact k_102
      have k_133 : σ_110 h0 1 = (σ h0 1) := by rw [eσ_110, up2_nej _ _ (by decide)]; exact k_132
      have k_134 : σ_115 h0 1 = (σ h0 1) := by rw [eσ_115, up2_nej _ _ (by decide)]; exact k_133
      have cq_135 : (σ_115 h0 1).toInt = (σ h0 1).toInt := congrArg Int32.toInt k_134
      have cq_136 : (σ_115 h0 12).toInt = (σ h0 12).toInt := congrArg Int32.toInt k_130
      have cq_137 : (σ_115 h0 16).toInt = x_105.toInt := congrArg Int32.toInt k_127
      have k_138 : σ_106 bl tx.toNatClampNeg = (σ_83 bl tx.toNatClampNeg) := by rw [eσ_106, up2_nea _ _ (tg_ne tbl th0 (by decide))]
      have k_139 : σ_110 bl tx.toNatClampNeg = (σ_83 bl tx.toNatClampNeg) := by rw [eσ_110, up2_nea _ _ (tg_ne tbl th0 (by decide))]; exact k_138
      have k_140 : σ_115 bl tx.toNatClampNeg = (σ_83 bl tx.toNatClampNeg) := by rw [eσ_115, up2_nea _ _ (tg_ne tbl th0 (by decide))]; exact k_139
      have cq_141 : (σ_115 bl tx.toNatClampNeg).toInt = (σ_83 bl tx.toNatClampNeg).toInt := congrArg Int32.toInt k_140
      have k_142 : σ_83 h0 11 = tx := (FR.at fσ_83 th0 (by decide)).trans k_78
      have k_143 : σ_106 h0 11 = tx := by rw [eσ_106, up2_nej _ _ (by decide)]; exact k_142
      have k_144 : σ_110 h0 11 = tx := by rw [eσ_110, up2_nej _ _ (by decide)]; exact k_143
      have k_145 : σ_115 h0 11 = tx := by rw [eσ_115, up2_nej _ _ (by decide)]; exact k_144
      refine t_cv (va_runV (As := [.int 3]) (rest := []) ⟨hx, hb, hml, hown, hts⟩ (cz_X12_settles l D cA L T r hG hLA.1 σ_115 ρ_84 hB.2.1 _ h0 mh0 th0 3 bg hbg mbg tbg bl hbl mbl tbl bo hbo mbo tbo tx k_145 (by first | omega | decide) (by first | omega | decide) w2 TC1 (by first | omega | decide)) (cV hts mv_X12_settles mw_7_35 rfl rfl ⟨Nat.le_of_ble_eq_true rfl, Nat.le_of_ble_eq_true rfl⟩) (pV hB.1 hK hN mh0 th0 (show shp cA 12 _ _ _ = .inr (12, Fs12 _ _ _) from rfl) rfl) rfl rfl hl.1 rfl (lv_room (Nat.le_of_ble_eq_true rfl)) dX12_closes_58 ⟨Nat.le_of_ble_eq_true rfl, Nat.le_of_ble_eq_true rfl⟩) hLA hA hB hS (by decide) (fun σ_146 ρ_147 H locs hB fσ_146 pσ_146 hS => ?_)
      obtain ⟨g_149, g_150, g_151, g_152, g_153, g_154⟩ := pσ_146
      have w_155 : 0 ≤ (σ_146 bl tx.toNatClampNeg).toInt ∧ (σ_146 bl tx.toNatClampNeg).toInt ≤ 400 := by have z := hB.2.1 bl mbl tx.toNatClampNeg; rw [tbl] at z; exact z
      have k_156 : σ_146 h0 8 = x_114 := (FR.at fσ_146 th0 (by decide)).trans k_116
      have k_157 : σ_146 h0 12 = (σ h0 12) := (FR.at fσ_146 th0 (by decide)).trans k_130
      have k_158a := congrFun eσ_106 bg
      rw [up2_row _ _ (tg_ne tbg th0 (by decide))] at k_158a
      have k_159a := congrFun eσ_110 bg
      rw [up2_row _ _ (tg_ne tbg th0 (by decide))] at k_159a
      have k_160a := congrFun eσ_115 bg
      rw [up2_row _ _ (tg_ne tbg th0 (by decide))] at k_160a
      have k_161a := congrFun eσ_106 bl
      rw [up2_row _ _ (tg_ne tbl th0 (by decide))] at k_161a
      have k_162a := congrFun eσ_110 bl
      rw [up2_row _ _ (tg_ne tbl th0 (by decide))] at k_162a
      have k_163a := congrFun eσ_115 bl
      rw [up2_row _ _ (tg_ne tbl th0 (by decide))] at k_163a
      have ex_164 : EX (σ bg) (σ bl) (σ_115 bg) (σ_115 bl) tx := by rw [((k_160a).trans ((k_159a).trans (k_158a))), ((k_163a).trans ((k_162a).trans (k_161a)))]; exact ex_98
      have ex_165 := EX.tr ex_164 g_149
      have w_166 : 0 ≤ (σ_146 h0 16).toInt ∧ (σ_146 h0 16).toInt ≤ 400 := by have z := hB.2.1 h0 mh0 16; rw [th0] at z; exact z
      have tn_167 := g_150.2.2.2
      have cq_168 : (σ_146 h0 8).toInt = x_114.toInt := congrArg Int32.toInt k_156
      have k_169 : σ_146 h0 1 = (σ h0 1) := (FR.at fσ_146 th0 (by decide)).trans k_134
      have cq_170 : (σ_146 h0 1).toInt = (σ h0 1).toInt := congrArg Int32.toInt k_169
      have cq_171 : (σ_146 h0 12).toInt = (σ h0 12).toInt := congrArg Int32.toInt k_157
      refine lv_goto (tgt := 5) hx hb dX12_closes_61 (by decide) ?_
      have k_172 : σ_146 h0 11 = tx := (FR.at fσ_146 th0 (by decide)).trans k_145
      exact ih_28 ⟨σ_146, ρ_147⟩ _ _ _ ⟨k_172, k_169, k_157, ex_165, g_150, (by rw [k_156]; omega), hB, hS, lv_sub hl [0] rfl⟩ (by show (400 - (σ_146 h0 8).toInt).toNat < (400 - (σ_26 h0 8).toInt).toNat; rw [k_156]; exact mu_lt cn1 cn2)
theorem mw_7_22 : (.constantLong RX12 194 7237492 : Cond) ∈ wsA := wsA_t (List.mem_append_right _ (List.mem_append_right _ (List.mem_append_right _ (List.mem_append_right _ (List.mem_append_right _ (List.mem_append_right _ (List.mem_append_left _ (List.mem_of_getElem? (l := tables_1_7) (i := 22) rfl)))))))) rfl
theorem mw_7_25 : (.instanceMethod yX12_opens : Cond) ∈ wsA := wsA_t (List.mem_append_right _ (List.mem_append_right _ (List.mem_append_right _ (List.mem_append_right _ (List.mem_append_right _ (List.mem_append_right _ (List.mem_append_left _ (List.mem_of_getElem? (l := tables_1_7) (i := 25) rfl)))))))) rfl
theorem mp_5_8 : (.selects RX12 yX12_opens yX12_opens : Cond) ∈ wsA := wsA_p (q := (yX12_opens, 44)) (List.mem_append_right _ (List.mem_append_right _ (List.mem_append_right _ (List.mem_append_right _ (List.mem_append_left _ (List.mem_of_getElem? (l := lw_privs_5) (i := 8) rfl))))))
theorem mw_7_26 : (.code yX12_opens cX12_opens 2 (some .boolean) : Cond) ∈ wsA := wsA_t (List.mem_append_right _ (List.mem_append_right _ (List.mem_append_right _ (List.mem_append_right _ (List.mem_append_right _ (List.mem_append_right _ (List.mem_append_left _ (List.mem_of_getElem? (l := tables_1_7) (i := 26) rfl)))))))) rfl
theorem mw_7_23 : (.methodLink RX12 196 yX12_opens : Cond) ∈ wsA := wsA_t (List.mem_append_right _ (List.mem_append_right _ (List.mem_append_right _ (List.mem_append_right _ (List.mem_append_right _ (List.mem_append_right _ (List.mem_append_left _ (List.mem_of_getElem? (l := tables_1_7) (i := 23) rfl)))))))) rfl
theorem mw_7_29 : (.instanceMethod yX12_compare : Cond) ∈ wsA := wsA_t (List.mem_append_right _ (List.mem_append_right _ (List.mem_append_right _ (List.mem_append_right _ (List.mem_append_right _ (List.mem_append_right _ (List.mem_append_left _ (List.mem_of_getElem? (l := tables_1_7) (i := 29) rfl)))))))) rfl
theorem mp_5_9 : (.selects RX12 yX12_compare yX12_compare : Cond) ∈ wsA := wsA_p (q := (yX12_compare, 44)) (List.mem_append_right _ (List.mem_append_right _ (List.mem_append_right _ (List.mem_append_right _ (List.mem_append_left _ (List.mem_of_getElem? (l := lw_privs_5) (i := 9) rfl))))))
theorem mw_7_30 : (.code yX12_compare cX12_compare 5 (some .boolean) : Cond) ∈ wsA := wsA_t (List.mem_append_right _ (List.mem_append_right _ (List.mem_append_right _ (List.mem_append_right _ (List.mem_append_right _ (List.mem_append_right _ (List.mem_append_left _ (List.mem_of_getElem? (l := tables_1_7) (i := 30) rfl)))))))) rfl
theorem mw_7_27 : (.methodLink RX12 199 yX12_compare : Cond) ∈ wsA := wsA_t (List.mem_append_right _ (List.mem_append_right _ (List.mem_append_right _ (List.mem_append_right _ (List.mem_append_right _ (List.mem_append_right _ (List.mem_append_left _ (List.mem_of_getElem? (l := tables_1_7) (i := 27) rfl)))))))) rfl
theorem dX12_fact_0 : decode cX12_fact 0 = .ok (.iconst 1, 1) := by decide +kernel
theorem dX12_fact_1 : decode cX12_fact 1 = .ok (.istore_n 1, 1) := by decide +kernel
theorem dX12_fact_2 : decode cX12_fact 2 = .ok (.iload_n 1, 1) := by decide +kernel
theorem dX12_fact_3 : decode cX12_fact 3 = .ok (.ifCond .eq 72, 3) := by decide +kernel
theorem dX12_fact_6 : decode cX12_fact 6 = .ok (.iconst 0, 1) := by decide +kernel
theorem dX12_fact_7 : decode cX12_fact 7 = .ok (.istore_n 1, 1) := by decide +kernel
theorem dX12_fact_8 : decode cX12_fact 8 = .ok (.aload_n 0, 1) := by decide +kernel
theorem dX12_fact_9 : decode cX12_fact 9 = .ok (.invokevirtual 105, 3) := by decide +kernel
theorem dX12_fact_12 : decode cX12_fact 12 = .ok (.istore_n 2, 1) := by decide +kernel
theorem dX12_fact_13 : decode cX12_fact 13 = .ok (.aload_n 0, 1) := by decide +kernel
theorem dX12_fact_14 : decode cX12_fact 14 = .ok (.ldc2_w 194, 3) := by decide +kernel
theorem dX12_fact_17 : decode cX12_fact 17 = .ok (.invokevirtual 113, 3) := by decide +kernel
theorem dX12_fact_20 : decode cX12_fact 20 = .ok (.ifCond .eq 23, 3) := by decide +kernel
theorem dX12_fact_43 : decode cX12_fact 43 = .ok (.iload_n 2, 1) := by decide +kernel
theorem dX12_fact_44 : decode cX12_fact 44 = .ok (.bipush 91, 2) := by decide +kernel
theorem dX12_fact_46 : decode cX12_fact 46 = .ok (.if_icmp .ne 26, 3) := by decide +kernel
theorem dX12_fact_72 : decode cX12_fact 72 = .ok (.goto (-70), 3) := by decide +kernel
theorem dX12_fact_49 : decode cX12_fact 49 = .ok (.aload_n 0, 1) := by decide +kernel
theorem dX12_fact_50 : decode cX12_fact 50 = .ok (.bipush 91, 2) := by decide +kernel
theorem dX12_fact_52 : decode cX12_fact 52 = .ok (.invokevirtual 196, 3) := by decide +kernel
theorem dX12_fact_55 : decode cX12_fact 55 = .ok (.ifCond .ne 5, 3) := by decide +kernel
theorem dX12_fact_60 : decode cX12_fact 60 = .ok (.aload_n 0, 1) := by decide +kernel
theorem dX12_fact_61 : decode cX12_fact 61 = .ok (.dup, 1) := by decide +kernel
theorem dX12_fact_62 : decode cX12_fact 62 = .ok (.getfield 102, 3) := by decide +kernel
theorem dX12_fact_65 : decode cX12_fact 65 = .ok (.iconst 1, 1) := by decide +kernel
theorem dX12_fact_66 : decode cX12_fact 66 = .ok (.iadd, 1) := by decide +kernel
theorem dX12_fact_67 : decode cX12_fact 67 = .ok (.putfield 102, 3) := by decide +kernel
theorem dX12_fact_70 : decode cX12_fact 70 = .ok (.iconst 1, 1) := by decide +kernel
theorem dX12_fact_71 : decode cX12_fact 71 = .ok (.istore_n 1, 1) := by decide +kernel
theorem dX12_fact_58 : decode cX12_fact 58 = .ok (.iconst 0, 1) := by decide +kernel
theorem dX12_fact_59 : decode cX12_fact 59 = .ok (.ireturn, 1) := by decide +kernel
theorem dX12_fact_23 : decode cX12_fact 23 = .ok (.aload_n 0, 1) := by decide +kernel
theorem dX12_fact_24 : decode cX12_fact 24 = .ok (.bipush 11, 2) := by decide +kernel
theorem dX12_fact_26 : decode cX12_fact 26 = .ok (.invokevirtual 196, 3) := by decide +kernel
theorem dX12_fact_29 : decode cX12_fact 29 = .ok (.ifCond .ne 5, 3) := by decide +kernel
theorem dX12_fact_34 : decode cX12_fact 34 = .ok (.aload_n 0, 1) := by decide +kernel
theorem dX12_fact_35 : decode cX12_fact 35 = .ok (.invokevirtual 117, 3) := by decide +kernel
theorem dX12_fact_38 : decode cX12_fact 38 = .ok (.iconst 1, 1) := by decide +kernel
theorem dX12_fact_39 : decode cX12_fact 39 = .ok (.istore_n 1, 1) := by decide +kernel
theorem dX12_fact_40 : decode cX12_fact 40 = .ok (.goto 32, 3) := by decide +kernel
theorem dX12_fact_32 : decode cX12_fact 32 = .ok (.iconst 0, 1) := by decide +kernel
theorem dX12_fact_33 : decode cX12_fact 33 = .ok (.ireturn, 1) := by decide +kernel
theorem dX12_fact_75 : decode cX12_fact 75 = .ok (.aload_n 0, 1) := by decide +kernel
theorem dX12_fact_76 : decode cX12_fact 76 = .ok (.invokevirtual 199, 3) := by decide +kernel
theorem dX12_fact_79 : decode cX12_fact 79 = .ok (.ireturn, 1) := by decide +kernel
theorem mv_X12_opens : MV RX12 yX12_opens cX12_opens 2 (some .boolean) 1 := ⟨mw_7_25, mp_5_8, mw_1_13, mw_7_26, ⟨rfl, by decide, by decide, by decide +kernel⟩⟩
theorem mv_X12_compare : MV RX12 yX12_compare cX12_compare 5 (some .boolean) 0 := ⟨mw_7_29, mp_5_9, mw_1_13, mw_7_30, ⟨rfl, by decide, by decide, by decide +kernel⟩⟩
set_option maxHeartbeats 4000000 in
set_option maxRecDepth 100000 in
theorem cz_X12_fact (l : Launch) (D : va_G) (cA : Nat → ClassId) (L : List Nat) (T : Nat → Nat) (r : Rg) (hG : GR L T r) (hL : L.Nodup) (σ : Sg) (ρ : Lg) (hW : WT L ry T σ) (sz : Nat) (h0 : Nat) (mh0 : h0 ∈ L) (th0 : T h0 = 12) (bt : Nat) (hbt : r h0 0 = some bt) (mbt : bt ∈ L) (tbt : T bt = 61) (bg : Nat) (hbg : r h0 3 = some bg) (mbg : bg ∈ L) (tbg : T bg = 62) (bl : Nat) (hbl : r h0 4 = some bl) (mbl : bl ∈ L) (tbl : T bl = 63) (bo : Nat) (hbo : r h0 15 = some bo) (mbo : bo ∈ L) (tbo : T bo = 67) (tx : Int32) (k0 : σ h0 11 = tx) (w0 : 0 ≤ tx.toInt) (w1 : tx.toInt ≤ 5) (w2 : Nat) (w3 : TV σ h0 bg bl bo tx w2 0) : Met l yX12_fact (.code yX12_fact cX12_fact 3 (some .boolean) :: wsA) ({ frames := 7, cells := 0, slots := 0, locals := 154 }) (PR D cA L T r σ ρ sz [.ref h0]) (QI D cA L T r ry [(12, 8), (12, 9), (12, 10), (12, 12), (12, 13), (12, 16), (62, 1000), (63, 1000), (67, 1000)] σ sz (fun x σ1 => (0 ≤ x.toInt ∧ x.toInt ≤ 1) ∧ ((σ h0 8).toInt ≤ (σ1 h0 8).toInt) ∧ (EX (σ bg) (σ bl) (σ1 bg) (σ1 bl) tx) ∧ (x.toInt = 1 → TV σ1 h0 bg bl bo tx w2 1))) 0 0 (dm L sz) := by
  refine Met.ofW (cc := cX12_fact) (maxL := 3) (ret := (some .boolean)) (by decide) rfl ?_
  intro p e s m args below meth c s₁ B hml hv
  obtain ⟨rfl, hsz, hP, hK, hN⟩ := hv
  have hx := B.exec
  have hb := B.bytes
  have hr := B.returns
  have hts : ∀ w ∈ wsA, w.before _ s = true := fun w h => atoms_spec (ws := .code yX12_fact cX12_fact 3 (some .boolean) :: wsA) B.pre w (List.mem_cons_of_mem _ h)
  have hown : s.vm.findClass RX12 = some m.cls := findClass_of_methodNamed B.named
  subst hsz
  have hLA : LA (dm L s.heap.size) L := ⟨hL, fun a h => Or.inl h⟩
  have hA : ∀ q : Nat, s.heap.size ≤ q → dm L s.heap.size q := fun q h => Or.inr h
  have hS : va_S (dm L s.heap.size) s.heap s.heap [] := va_S.rf
  have hB : TS D cA L T r ry [(12, 8), (12, 9), (12, 10), (12, 12), (12, 13), (12, 16), (62, 1000), (63, 1000), (67, 1000)] σ σ ρ s.heap := ⟨hP, hW, FR.rf⟩
  have hl := lv_entry ([.ref h0]) (n := 3) (Nat.le_of_ble_eq_true rfl)
  rw [lg_entry_eq]
  generalize (lg_sl ([.ref h0]) ++ List.replicate (3 - (lg_sl ([.ref h0])).length) Slot.unset).toArray = ls at hl ⊢
  have hl : lv_has ls 3 [(0, .ref h0)] := hl
  have w_1 : 0 ≤ (σ h0 8).toInt ∧ (σ h0 8).toInt ≤ 400 := by have z := hB.2.1 h0 mh0 8; rw [th0] at z; exact z
  have w_2 : 0 ≤ (σ h0 1).toInt ∧ (σ h0 1).toInt ≤ 400 := by have z := hB.2.1 h0 mh0 1; rw [th0] at z; exact z
  have w_3 : 0 ≤ (σ h0 12).toInt ∧ (σ h0 12).toInt ≤ 60 := by have z := hB.2.1 h0 mh0 12; rw [th0] at z; exact z
  have w_4 : 0 ≤ (σ h0 16).toInt ∧ (σ h0 16).toInt ≤ 400 := by have z := hB.2.1 h0 mh0 16; rw [th0] at z; exact z
  have w_5 : 0 ≤ (σ bl tx.toNatClampNeg).toInt ∧ (σ bl tx.toNatClampNeg).toInt ≤ 400 := by have z := hB.2.1 bl mbl tx.toNatClampNeg; rw [tbl] at z; exact z
  have tn0 := w3.2.2.2
  refine lv_iconst (v := 1) hx hb dX12_fact_0 (by decide) ?_
  refine lv_istore_n (lv' := [(1, .int 1), (0, .ref h0)]) hx hb dX12_fact_1 rfl hl (by decide) rfl (fun ls hl => ?_)
  refine w_loop (α := Int32 × Sg × Lg) (fun (i_6, σ_7, ρ_8) H locs ls => 0 ≤ i_6.toInt ∧ i_6.toInt ≤ 1 ∧ σ_7 h0 11 = tx ∧ σ_7 h0 1 = (σ h0 1) ∧ σ_7 h0 12 = (σ h0 12) ∧ (EX (σ bg) (σ bl) (σ_7 bg) (σ_7 bl) tx) ∧ (TV σ_7 h0 bg bl bo tx w2 0) ∧ ((σ h0 8).toInt ≤ (σ_7 h0 8).toInt) ∧ TS D cA L T r ry [(12, 8), (12, 9), (12, 10), (12, 12), (12, 13), (12, 16), (62, 1000), (63, 1000), (67, 1000)] σ σ_7 ρ_8 H ∧ va_S (dm L s.heap.size) s.heap H locs ∧ lv_has ls 3 [(1, .int i_6), (0, .ref h0)]) (fun (i_6, σ_7, ρ_8) => (2 * (400 - (σ_7 h0 8).toInt) + (i_6 : Int32).toInt).toNat) ?_ ⟨1, σ, ρ⟩ ⟨(by decide), (by decide), k0, rfl, rfl, EX.rf, w3, (by omega), hB, hS, lv_sub hl [0, 1] rfl⟩
  rintro ⟨i_6, σ_7, ρ_8⟩ H locs ls ⟨li_6, ui_6, k_10, k_11, k_12, g_13, g_14, g_15, hB, hS, hl⟩ ih_9
  have w_16 : 0 ≤ (σ_7 h0 16).toInt ∧ (σ_7 h0 16).toInt ≤ 400 := by have z := hB.2.1 h0 mh0 16; rw [th0] at z; exact z
  have w_17 : 0 ≤ (σ_7 h0 8).toInt ∧ (σ_7 h0 8).toInt ≤ 400 := by have z := hB.2.1 h0 mh0 8; rw [th0] at z; exact z
  have w_18 : 0 ≤ (σ_7 bl tx.toNatClampNeg).toInt ∧ (σ_7 bl tx.toNatClampNeg).toInt ≤ 400 := by have z := hB.2.1 bl mbl tx.toNatClampNeg; rw [tbl] at z; exact z
  have tn1 := g_14.2.2.2
  have cq_19 := congrArg Int32.toInt k_11
  refine lv_iload_n hx hb dX12_fact_2 rfl (lv_at hl 0 rfl) ?_
  refine lv_if_eq (tgt := 75) hx hb dX12_fact_3 (by decide) (fun c_20 => ?_) (fun c_20 => ?_)
  · skip
    have uc_20 := i_eq (n := 0) (by decide) c_20
    refine lv_aload_n hx hb dX12_fact_75 rfl (lv_at hl 1 rfl) ?_
    have cq_21 : (σ_7 h0 1).toInt = (σ h0 1).toInt := congrArg Int32.toInt k_11
    have cq_22 : (σ_7 h0 12).toInt = (σ h0 12).toInt := congrArg Int32.toInt k_12
    refine t_ci (va_runV (As := []) (rest := []) ⟨hx, hb, hml, hown, hts⟩ (cz_X12_compare l D cA L T r hG hLA.1 σ_7 ρ_8 hB.2.1 _ h0 mh0 th0 bt hbt mbt tbt bg hbg mbg tbg bl hbl mbl tbl tx k_10 (by first | omega | decide) (by first | omega | decide) (by omega)) (cV hts mv_X12_compare mw_7_27 rfl rfl ⟨Nat.le_of_ble_eq_true rfl, Nat.le_of_ble_eq_true rfl⟩) (pV hB.1 hK hN mh0 th0 (show shp cA 12 _ _ _ = .inr (12, Fs12 _ _ _) from rfl) rfl) rfl rfl hl.1 rfl (lv_room (Nat.le_of_ble_eq_true rfl)) dX12_fact_76 ⟨Nat.le_of_ble_eq_true rfl, Nat.le_of_ble_eq_true rfl⟩) hLA hA hB hS (by decide) (fun x_25 σ_23 ρ_24 H locs hB fσ_23 pσ_23 hS => ?_)
    obtain ⟨g_26, g_27, g_28, g_29⟩ := pσ_23
    have w_30 : 0 ≤ (σ_23 bl tx.toNatClampNeg).toInt ∧ (σ_23 bl tx.toNatClampNeg).toInt ≤ 400 := by have z := hB.2.1 bl mbl tx.toNatClampNeg; rw [tbl] at z; exact z
    have w_31 : 0 ≤ (σ_23 h0 8).toInt ∧ (σ_23 h0 8).toInt ≤ 400 := by have z := hB.2.1 h0 mh0 8; rw [th0] at z; exact z
    have w_32 : 0 ≤ (σ_23 h0 12).toInt ∧ (σ_23 h0 12).toInt ≤ 60 := by have z := hB.2.1 h0 mh0 12; rw [th0] at z; exact z
    have ex_33 := EX.tr g_13 g_28
    obtain ⟨lx_25, ux_25⟩ := g_26
    have k_34 : σ_23 h0 1 = (σ h0 1) := (FR.at fσ_23 th0 (by decide)).trans k_11
    have cq_35 : (σ_23 h0 1).toInt = (σ h0 1).toInt := congrArg Int32.toInt k_34
    have k_36 : σ_23 h0 16 = (σ_7 h0 16) := (FR.at fσ_23 th0 (by decide)).trans rfl
    have cq_37 : (σ_23 h0 16).toInt = (σ_7 h0 16).toInt := congrArg Int32.toInt k_36
    have k_38 := FR.row fσ_23 tbo (fun j => by simp)
    exact W.zret (v := x_25) hx hb hr (n_bool (by omega) (by omega)) (fun t ht hW => ⟨⟨x_25, (σ_23, ρ_24), rfl, ⟨hB.2.1, hB.2.2, ⟨(show 0 ≤ (x_25 : Int32).toInt ∧ (x_25 : Int32).toInt ≤ 1 from ⟨by omega, by omega⟩), (show (σ h0 8).toInt ≤ (σ_23 h0 8).toInt from (by omega)), (show EX (σ bg) (σ bl) (σ_23 bg) (σ_23 bl) tx from ex_33), (show (x_25 : Int32).toInt = 1 → TV σ_23 h0 bg bl bo tx w2 1 from (fun h => TV.rl g_14 (g_29 h) (k_38) (k_36)))⟩⟩, (show TP D cA L T r σ_23 ρ_24 t.heap from by rw [ht]; exact hB.1)⟩, hS.F ht⟩) hS.2.2 dX12_fact_79
  · skip
    have uc_20 := i_ne (n := 0) (by decide) c_20
    refine lv_iconst (v := 0) hx hb dX12_fact_6 (by decide) ?_
    refine lv_istore_n (lv' := [(1, .int 0), (0, .ref h0)]) hx hb dX12_fact_7 rfl hl (by decide) rfl (fun ls hl => ?_)
    refine lv_aload_n hx hb dX12_fact_8 rfl (lv_at hl 1 rfl) ?_
    have cq_39 : (σ_7 h0 1).toInt = (σ h0 1).toInt := congrArg Int32.toInt k_11
    have cq_40 : (σ_7 h0 12).toInt = (σ h0 12).toInt := congrArg Int32.toInt k_12
    refine t_ci (va_runV (As := []) (rest := []) ⟨hx, hb, hml, hown, hts⟩ (cz_X12_see l D cA L T r hG hLA.1 σ_7 ρ_8 hB.2.1 _ h0 mh0 th0 bt hbt mbt tbt) (cV hts mv_X12_see mw_6_134 rfl rfl ⟨Nat.le_of_ble_eq_true rfl, Nat.le_of_ble_eq_true rfl⟩) (pV hB.1 hK hN mh0 th0 (show shp cA 12 _ _ _ = .inr (12, Fs12 _ _ _) from rfl) rfl) rfl rfl hl.1 rfl (lv_room (Nat.le_of_ble_eq_true rfl)) dX12_fact_9 ⟨Nat.le_of_ble_eq_true rfl, Nat.le_of_ble_eq_true rfl⟩) hLA hA hB hS (by decide) (fun x_43 σ_41 ρ_42 H locs hB fσ_41 pσ_41 hS => ?_)
    obtain ⟨g_44, g_45, g_46, g_47⟩ := pσ_41
    have w_48 : 0 ≤ (σ_41 h0 8).toInt ∧ (σ_41 h0 8).toInt ≤ 400 := by have z := hB.2.1 h0 mh0 8; rw [th0] at z; exact z
    obtain ⟨lx_43, ux_43⟩ := g_44
    have k_49 : σ_41 h0 1 = (σ h0 1) := (FR.at fσ_41 th0 (by decide)).trans k_11
    have cq_50 : (σ_41 h0 1).toInt = (σ h0 1).toInt := congrArg Int32.toInt k_49
    have k_51 : σ_41 h0 12 = (σ h0 12) := (FR.at fσ_41 th0 (by decide)).trans k_12
    have cq_52 : (σ_41 h0 12).toInt = (σ h0 12).toInt := congrArg Int32.toInt k_51
    have k_53 : σ_41 h0 16 = (σ_7 h0 16) := (FR.at fσ_41 th0 (by decide)).trans rfl
    have cq_54 : (σ_41 h0 16).toInt = (σ_7 h0 16).toInt := congrArg Int32.toInt k_53
    have k_55 : σ_41 bl tx.toNatClampNeg = (σ_7 bl tx.toNatClampNeg) := (FR.at fσ_41 tbl (by simp)).trans rfl
    have cq_56 : (σ_41 bl tx.toNatClampNeg).toInt = (σ_7 bl tx.toNatClampNeg).toInt := congrArg Int32.toInt k_55
    refine lv_istore_n (lv' := [(2, .int x_43), (1, .int 0), (0, .ref h0)]) hx hb dX12_fact_12 rfl hl (by decide) rfl (fun ls hl => ?_)
    refine lv_aload_n hx hb dX12_fact_13 rfl (lv_at hl 2 rfl) ?_
    refine lv_ldc2 (v := 7237492) hx hb hown (hts _ mw_7_22) dX12_fact_14 ?_
    refine t_ci (va_runV (As := [.long 7237492]) (rest := []) ⟨hx, hb, hml, hown, hts⟩ (cz_X12_isWord l D cA L T r hG hLA.1 σ_41 ρ_42 hB.2.1 _ h0 mh0 th0 7237492 bt hbt mbt tbt) (cV hts mv_X12_isWord mw_6_143 rfl rfl ⟨Nat.le_of_ble_eq_true rfl, Nat.le_of_ble_eq_true rfl⟩) (pV hB.1 hK hN mh0 th0 (show shp cA 12 _ _ _ = .inr (12, Fs12 _ _ _) from rfl) rfl) rfl rfl hl.1 rfl (lv_room (Nat.le_of_ble_eq_true rfl)) dX12_fact_17 ⟨Nat.le_of_ble_eq_true rfl, Nat.le_of_ble_eq_true rfl⟩) hLA hA hB hS (by decide) (fun x_59 σ_57 ρ_58 H locs hB fσ_57 pσ_57 hS => ?_)
    obtain ⟨g_60, g_61, g_62, g_63⟩ := pσ_57
    have w_64 : 0 ≤ (σ_57 h0 8).toInt ∧ (σ_57 h0 8).toInt ≤ 400 := by have z := hB.2.1 h0 mh0 8; rw [th0] at z; exact z
    obtain ⟨lx_59, ux_59⟩ := g_60
    have k_65 : σ_57 h0 1 = (σ h0 1) := (FR.at fσ_57 th0 (by decide)).trans k_49
    have cq_66 : (σ_57 h0 1).toInt = (σ h0 1).toInt := congrArg Int32.toInt k_65
    have k_67 : σ_57 h0 12 = (σ h0 12) := (FR.at fσ_57 th0 (by decide)).trans k_51
    have cq_68 : (σ_57 h0 12).toInt = (σ h0 12).toInt := congrArg Int32.toInt k_67
    have k_69 : σ_57 h0 16 = (σ_7 h0 16) := (FR.at fσ_57 th0 (by decide)).trans k_53
    have cq_70 : (σ_57 h0 16).toInt = (σ_7 h0 16).toInt := congrArg Int32.toInt k_69
    have k_71 : σ_57 bl tx.toNatClampNeg = (σ_7 bl tx.toNatClampNeg) := (FR.at fσ_57 tbl (by simp)).trans k_55
    have cq_72 : (σ_57 bl tx.toNatClampNeg).toInt = (σ_7 bl tx.toNatClampNeg).toInt := congrArg Int32.toInt k_71
    refine lv_if_eq (tgt := 43) hx hb dX12_fact_20 (by decide) (fun c_73 => ?_) (fun c_73 => ?_)
    · skip
      have uc_73 := i_eq (n := 0) (by decide) c_73
      refine lv_iload_n hx hb dX12_fact_43 rfl (lv_at hl 0 rfl) ?_
      refine lv_bipush (v := 91) hx hb dX12_fact_44 (by decide) ?_
      refine lv_icmp_ne (tgt := 72) hx hb dX12_fact_46 (by decide) (fun c_74 => ?_) (fun c_74 => ?_)
      · skip
        have uc_74 := i_ne (n := 91) (by decide) c_74
        refine lv_goto (tgt := 2) hx hb dX12_fact_72 (by decide) ?_
        have k_75 : σ_41 h0 11 = tx := (FR.at fσ_41 th0 (by decide)).trans k_10
        have k_76 : σ_57 h0 11 = tx := (FR.at fσ_57 th0 (by decide)).trans k_75
        have k_77 := FR.row fσ_41 tbg (fun j => by simp)
        have k_78 := FR.row fσ_57 tbg (fun j => by simp)
        have k_79 := FR.row fσ_41 tbl (fun j => by simp)
        have k_80 := FR.row fσ_57 tbl (fun j => by simp)
        have ex_81 : EX (σ bg) (σ bl) (σ_57 bg) (σ_57 bl) tx := by rw [((k_78).trans (k_77)), ((k_80).trans (k_79))]; exact g_13
        have k_83 := FR.row fσ_41 tbg (fun j => by simp)
        have k_84 := FR.row fσ_57 tbg (fun j => by simp)
        have k_85 := FR.row fσ_41 tbl (fun j => by simp)
        have k_86 := FR.row fσ_57 tbl (fun j => by simp)
        have k_87 := FR.row fσ_41 tbo (fun j => by simp)
        have k_88 := FR.row fσ_57 tbo (fun j => by simp)
        have TW_82 : TV σ_57 h0 bg bl bo tx w2 0 := TV.fr g_14 ((k_84).trans (k_83)) ((k_86).trans (k_85)) ((k_88).trans (k_87)) (k_69) (by rw [k_67, k_12]; omega) (by omega)
        have TW_82n := TW_82.2.2.2
        exact ih_9 ⟨0, σ_57, ρ_58⟩ _ _ _ ⟨(by decide), (by decide), k_76, k_65, k_67, ex_81, TW_82, (by omega), hB, hS, lv_sub hl [1, 2] rfl⟩ (by show (2 * (400 - (σ_57 h0 8).toInt) + (0 : Int32).toInt).toNat < (2 * (400 - (σ_7 h0 8).toInt) + (i_6 : Int32).toInt).toNat; have z1 : (1 : Int32).toInt = 1 := (by decide); have z0 : (0 : Int32).toInt = 0 := (by decide); omega)
      · skip
        have uc_74 := i_eq (n := 91) (by decide) c_74
        refine lv_aload_n hx hb dX12_fact_49 rfl (lv_at hl 2 rfl) ?_
        refine lv_bipush (v := 91) hx hb dX12_fact_50 (by decide) ?_
        have k_90 := FR.row fσ_41 tbg (fun j => by simp)
        have k_91 := FR.row fσ_57 tbg (fun j => by simp)
        have k_92 := FR.row fσ_41 tbl (fun j => by simp)
        have k_93 := FR.row fσ_57 tbl (fun j => by simp)
        have k_94 := FR.row fσ_41 tbo (fun j => by simp)
        have k_95 := FR.row fσ_57 tbo (fun j => by simp)
        have TW_89 : TV σ_57 h0 bg bl bo tx w2 0 := TV.fr g_14 ((k_91).trans (k_90)) ((k_93).trans (k_92)) ((k_95).trans (k_94)) (k_69) (by rw [k_67, k_12]; omega) (by omega)
        have TW_89n := TW_89.2.2.2
        refine t_ci (va_runV (As := [.int 91]) (rest := []) ⟨hx, hb, hml, hown, hts⟩ (cz_X12_opens l D cA L T r hG hLA.1 σ_57 ρ_58 hB.2.1 _ h0 mh0 th0 91 bo hbo mbo tbo (by rw [k_69]; omega)) (cV hts mv_X12_opens mw_7_23 rfl rfl ⟨Nat.le_of_ble_eq_true rfl, Nat.le_of_ble_eq_true rfl⟩) (pV hB.1 hK hN mh0 th0 (show shp cA 12 _ _ _ = .inr (12, Fs12 _ _ _) from rfl) rfl) rfl rfl hl.1 rfl (lv_room (Nat.le_of_ble_eq_true rfl)) dX12_fact_52 ⟨Nat.le_of_ble_eq_true rfl, Nat.le_of_ble_eq_true rfl⟩) hLA hA hB hS (by decide) (fun x_98 σ_96 ρ_97 H locs hB fσ_96 pσ_96 hS => ?_)
        obtain ⟨g_99, g_100⟩ := pσ_96
        have w_101 : 0 ≤ (σ_96 h0 16).toInt ∧ (σ_96 h0 16).toInt ≤ 400 := by have z := hB.2.1 h0 mh0 16; rw [th0] at z; exact z
        obtain ⟨lx_98, ux_98⟩ := g_99
        have k_102 : σ_96 h0 8 = (σ_57 h0 8) := (FR.at fσ_96 th0 (by decide)).trans rfl
        have cq_103 : (σ_96 h0 8).toInt = (σ_57 h0 8).toInt := congrArg Int32.toInt k_102
        have k_104 : σ_96 h0 1 = (σ h0 1) := (FR.at fσ_96 th0 (by decide)).trans k_65
        have cq_105 : (σ_96 h0 1).toInt = (σ h0 1).toInt := congrArg Int32.toInt k_104
        have k_106 : σ_96 h0 12 = (σ h0 12) := (FR.at fσ_96 th0 (by decide)).trans k_67
        have cq_107 : (σ_96 h0 12).toInt = (σ h0 12).toInt := congrArg Int32.toInt k_106
        have k_108 : σ_96 bl tx.toNatClampNeg = (σ_7 bl tx.toNatClampNeg) := (FR.at fσ_96 tbl (by simp)).trans k_71
        have cq_109 : (σ_96 bl tx.toNatClampNeg).toInt = (σ_7 bl tx.toNatClampNeg).toInt := congrArg Int32.toInt k_108
        refine lv_if_ne (tgt := 60) hx hb dX12_fact_55 (by decide) (fun c_110 => ?_) (fun c_110 => ?_)
        · skip
          have uc_110 := i_ne (n := 0) (by decide) c_110
          refine lv_aload_n hx hb dX12_fact_60 rfl (lv_at hl 2 rfl) ?_
          refine lv_dup hx hb dX12_fact_61 rfl ?_
          refine t_gv hx hb hts hown hK hB mh0 th0 fi_12_8 k_102 mw_5_224 dX12_fact_62 ?_
          refine lv_iconst (v := 1) hx hb dX12_fact_65 (by decide) ?_
          refine lv_iadd hx hb dX12_fact_66 ?_
          refine lv_topi (fun x_111 ex_111 => ?_)
          have vx_111 := b_add (rfl : (σ_57 h0 8).toInt = _) (by decide : (1 : Int32).toInt = 1) ex_111 (by omega) (by omega)
          refine t_pi hx hb hts hown hK hLA hB hS mh0 th0 fi_12_8 rfl rfl rfl (by first | omega | (subst_vars; omega)) (by first | omega | (subst_vars; omega)) (Or.inl (by decide)) mw_5_224 dX12_fact_67 (fun H locs σ_112 eσ_112 hB hS => ?_)
          have k_113 : σ_112 h0 8 = x_111 := by rw [eσ_112]; exact up2_same _ _ _ _
          obtain ⟨oq1, oq2⟩ := g_100 (by omega)
          have k_114a := congrFun eσ_112 bo
          rw [up2_row _ _ (tg_ne tbo th0 (by decide))] at k_114a
          have k_115 := FR.row fσ_96 tbg (fun j => by simp)
          have k_116a := congrFun eσ_112 bg
          rw [up2_row _ _ (tg_ne tbg th0 (by decide))] at k_116a
          have k_117 := FR.row fσ_96 tbl (fun j => by simp)
          have k_118a := congrFun eσ_112 bl
          rw [up2_row _ _ (tg_ne tbl th0 (by decide))] at k_118a
          have k_119 : σ_112 h0 16 = (σ_96 h0 16) := by rw [eσ_112, up2_nej _ _ (by decide)]
          have k_120 : σ_112 h0 12 = (σ h0 12) := by rw [eσ_112, up2_nej _ _ (by decide)]; exact k_106
          have TO1 : TV σ_112 h0 bg bl bo tx w2 0 := TV.op (w := 91) TW_89 (by decide) (by omega) ((k_116a).trans (k_115)) ((k_118a).trans (k_117)) (fun j => by rw [(k_114a)]; exact oq2 j) (by rw [k_119]; omega) (by rw [k_120]; omega) (by rw [k_113]; omega)
          refine lv_iconst (v := 1) hx hb dX12_fact_70 (by decide) ?_
          refine lv_istore_n (lv' := [(1, .int 1), (2, .int x_43), (0, .ref h0)]) hx hb dX12_fact_71 rfl hl (by decide) rfl (fun ls hl => ?_)
          refine lv_goto (tgt := 2) hx hb dX12_fact_72 (by decide) ?_
          have k_121 : σ_41 h0 11 = tx := (FR.at fσ_41 th0 (by decide)).trans k_10
          have k_122 : σ_57 h0 11 = tx := (FR.at fσ_57 th0 (by decide)).trans k_121
          have k_123 : σ_96 h0 11 = tx := (FR.at fσ_96 th0 (by decide)).trans k_122
          have k_124 : σ_112 h0 11 = tx := by rw [eσ_112, up2_nej _ _ (by decide)]; exact k_123
          have k_125 : σ_112 h0 1 = (σ h0 1) := by rw [eσ_112, up2_nej _ _ (by decide)]; exact k_104
          have k_126 := FR.row fσ_41 tbg (fun j => by simp)
          have k_127 := FR.row fσ_57 tbg (fun j => by simp)
          have k_128 := FR.row fσ_96 tbg (fun j => by simp)
          have k_129a := congrFun eσ_112 bg
          rw [up2_row _ _ (tg_ne tbg th0 (by decide))] at k_129a
          have k_130 := FR.row fσ_41 tbl (fun j => by simp)
          have k_131 := FR.row fσ_57 tbl (fun j => by simp)
          have k_132 := FR.row fσ_96 tbl (fun j => by simp)
          have k_133a := congrFun eσ_112 bl
          rw [up2_row _ _ (tg_ne tbl th0 (by decide))] at k_133a
          have ex_134 : EX (σ bg) (σ bl) (σ_112 bg) (σ_112 bl) tx := by rw [((k_129a).trans ((k_128).trans ((k_127).trans (k_126)))), ((k_133a).trans ((k_132).trans ((k_131).trans (k_130))))]; exact g_13
          exact ih_9 ⟨1, σ_112, ρ_97⟩ _ _ _ ⟨(by decide), (by decide), k_124, k_125, k_120, ex_134, TO1, (by rw [k_113]; omega), hB, hS, lv_sub hl [0, 2] rfl⟩ (by show (2 * (400 - (σ_112 h0 8).toInt) + (1 : Int32).toInt).toNat < (2 * (400 - (σ_7 h0 8).toInt) + (i_6 : Int32).toInt).toNat; rw [k_113]; have z1 : (1 : Int32).toInt = 1 := (by decide); have z0 : (0 : Int32).toInt = 0 := (by decide); omega)
        · skip
          have uc_110 := i_eq (n := 0) (by decide) c_110
          refine lv_iconst (v := 0) hx hb dX12_fact_58 (by decide) ?_
          have k_135 := FR.row fσ_41 tbg (fun j => by simp)
          have k_136 := FR.row fσ_57 tbg (fun j => by simp)
          have k_137 := FR.row fσ_96 tbg (fun j => by simp)
          have k_138 := FR.row fσ_41 tbl (fun j => by simp)
          have k_139 := FR.row fσ_57 tbl (fun j => by simp)
          have k_140 := FR.row fσ_96 tbl (fun j => by simp)
          have ex_141 : EX (σ bg) (σ bl) (σ_96 bg) (σ_96 bl) tx := by rw [((k_137).trans ((k_136).trans (k_135))), ((k_140).trans ((k_139).trans (k_138)))]; exact g_13
          exact W.zret (v := 0) hx hb hr rfl (fun t ht hW => ⟨⟨0, (σ_96, ρ_97), rfl, ⟨hB.2.1, hB.2.2, ⟨(show 0 ≤ (0 : Int32).toInt ∧ (0 : Int32).toInt ≤ 1 from ⟨by decide, by decide⟩), (show (σ h0 8).toInt ≤ (σ_96 h0 8).toInt from (by rw [k_102]; omega)), (show EX (σ bg) (σ bl) (σ_96 bg) (σ_96 bl) tx from ex_141), (show (0 : Int32).toInt = 1 → TV σ_96 h0 bg bl bo tx w2 1 from (fun h => absurd h (by decide)))⟩⟩, (show TP D cA L T r σ_96 ρ_97 t.heap from by rw [ht]; exact hB.1)⟩, hS.F ht⟩) hS.2.2 dX12_fact_59
    · skip
      have uc_73 := i_ne (n := 0) (by decide) c_73
      refine lv_aload_n hx hb dX12_fact_23 rfl (lv_at hl 2 rfl) ?_
      refine lv_bipush (v := 11) hx hb dX12_fact_24 (by decide) ?_
      have k_143 := FR.row fσ_41 tbg (fun j => by simp)
      have k_144 := FR.row fσ_57 tbg (fun j => by simp)
      have k_145 := FR.row fσ_41 tbl (fun j => by simp)
      have k_146 := FR.row fσ_57 tbl (fun j => by simp)
      have k_147 := FR.row fσ_41 tbo (fun j => by simp)
      have k_148 := FR.row fσ_57 tbo (fun j => by simp)
      have TW_142 : TV σ_57 h0 bg bl bo tx w2 0 := TV.fr g_14 ((k_144).trans (k_143)) ((k_146).trans (k_145)) ((k_148).trans (k_147)) (k_69) (by rw [k_67, k_12]; omega) (by omega)
      have TW_142n := TW_142.2.2.2
      refine t_ci (va_runV (As := [.int 11]) (rest := []) ⟨hx, hb, hml, hown, hts⟩ (cz_X12_opens l D cA L T r hG hLA.1 σ_57 ρ_58 hB.2.1 _ h0 mh0 th0 11 bo hbo mbo tbo (by rw [k_69]; omega)) (cV hts mv_X12_opens mw_7_23 rfl rfl ⟨Nat.le_of_ble_eq_true rfl, Nat.le_of_ble_eq_true rfl⟩) (pV hB.1 hK hN mh0 th0 (show shp cA 12 _ _ _ = .inr (12, Fs12 _ _ _) from rfl) rfl) rfl rfl hl.1 rfl (lv_room (Nat.le_of_ble_eq_true rfl)) dX12_fact_26 ⟨Nat.le_of_ble_eq_true rfl, Nat.le_of_ble_eq_true rfl⟩) hLA hA hB hS (by decide) (fun x_151 σ_149 ρ_150 H locs hB fσ_149 pσ_149 hS => ?_)
      obtain ⟨g_152, g_153⟩ := pσ_149
      have w_154 : 0 ≤ (σ_149 h0 16).toInt ∧ (σ_149 h0 16).toInt ≤ 400 := by have z := hB.2.1 h0 mh0 16; rw [th0] at z; exact z
      obtain ⟨lx_151, ux_151⟩ := g_152
      have k_155 : σ_149 h0 8 = (σ_57 h0 8) := (FR.at fσ_149 th0 (by decide)).trans rfl
      have cq_156 : (σ_149 h0 8).toInt = (σ_57 h0 8).toInt := congrArg Int32.toInt k_155
      have k_157 : σ_149 h0 1 = (σ h0 1) := (FR.at fσ_149 th0 (by decide)).trans k_65
      have cq_158 : (σ_149 h0 1).toInt = (σ h0 1).toInt := congrArg Int32.toInt k_157
      have k_159 : σ_149 h0 12 = (σ h0 12) := (FR.at fσ_149 th0 (by decide)).trans k_67
      have cq_160 : (σ_149 h0 12).toInt = (σ h0 12).toInt := congrArg Int32.toInt k_159
      have k_161 : σ_149 bl tx.toNatClampNeg = (σ_7 bl tx.toNatClampNeg) := (FR.at fσ_149 tbl (by simp)).trans k_71
      have cq_162 : (σ_149 bl tx.toNatClampNeg).toInt = (σ_7 bl tx.toNatClampNeg).toInt := congrArg Int32.toInt k_161
      refine lv_if_ne (tgt := 34) hx hb dX12_fact_29 (by decide) (fun c_163 => ?_) (fun c_163 => ?_)
      · skip
        have uc_163 := i_ne (n := 0) (by decide) c_163
        refine lv_aload_n hx hb dX12_fact_34 rfl (lv_at hl 2 rfl) ?_
        have k_164 := FR.row fσ_149 tbt (fun j => by simp)
        have lt_165 : (σ_149 bt (σ_149 h0 8).toNatClampNeg).toInt = (σ_57 bt (σ_57 h0 8).toNatClampNeg).toInt := by rw [k_164, k_155]
        refine t_cv (va_runV (As := []) (rest := []) ⟨hx, hb, hml, hown, hts⟩ (cz_X12_passWord l D cA L T r hG hLA.1 σ_149 ρ_150 hB.2.1 _ h0 mh0 th0 bt hbt mbt tbt) (cV hts mv_X12_passWord mw_6_169 rfl rfl ⟨Nat.le_of_ble_eq_true rfl, Nat.le_of_ble_eq_true rfl⟩) (pV hB.1 hK hN mh0 th0 (show shp cA 12 _ _ _ = .inr (12, Fs12 _ _ _) from rfl) rfl) rfl rfl hl.1 rfl (lv_room (Nat.le_of_ble_eq_true rfl)) dX12_fact_35 ⟨Nat.le_of_ble_eq_true rfl, Nat.le_of_ble_eq_true rfl⟩) hLA hA hB hS (by decide) (fun σ_166 ρ_167 H locs hB fσ_166 pσ_166 hS => ?_)
        obtain ⟨g_169, g_170⟩ := pσ_166
        have w_171 : 0 ≤ (σ_166 h0 8).toInt ∧ (σ_166 h0 8).toInt ≤ 400 := by have z := hB.2.1 h0 mh0 8; rw [th0] at z; exact z
        have k_172 : σ_166 h0 1 = (σ h0 1) := (FR.at fσ_166 th0 (by decide)).trans k_157
        have cq_173 : (σ_166 h0 1).toInt = (σ h0 1).toInt := congrArg Int32.toInt k_172
        have k_174 : σ_166 h0 12 = (σ h0 12) := (FR.at fσ_166 th0 (by decide)).trans k_159
        have cq_175 : (σ_166 h0 12).toInt = (σ h0 12).toInt := congrArg Int32.toInt k_174
        have k_176 : σ_166 h0 16 = (σ_149 h0 16) := (FR.at fσ_166 th0 (by decide)).trans rfl
        have cq_177 : (σ_166 h0 16).toInt = (σ_149 h0 16).toInt := congrArg Int32.toInt k_176
        have k_178 : σ_166 bl tx.toNatClampNeg = (σ_7 bl tx.toNatClampNeg) := (FR.at fσ_166 tbl (by simp)).trans k_161
        have cq_179 : (σ_166 bl tx.toNatClampNeg).toInt = (σ_7 bl tx.toNatClampNeg).toInt := congrArg Int32.toInt k_178
        obtain ⟨oq1, oq2⟩ := g_153 (by omega)
        have k_180 := FR.row fσ_166 tbo (fun j => by simp)
        have k_181 := FR.row fσ_149 tbg (fun j => by simp)
        have k_182 := FR.row fσ_166 tbg (fun j => by simp)
        have k_183 := FR.row fσ_149 tbl (fun j => by simp)
        have k_184 := FR.row fσ_166 tbl (fun j => by simp)
        have TO1 : TV σ_166 h0 bg bl bo tx w2 0 := TV.op (w := 11) TW_142 (by decide) (by omega) ((k_182).trans (k_181)) ((k_184).trans (k_183)) (fun j => by rw [(k_180)]; exact oq2 j) (by rw [k_176]; omega) (by rw [k_174]; omega) (by omega)
        refine lv_iconst (v := 1) hx hb dX12_fact_38 (by decide) ?_
        refine lv_istore_n (lv' := [(1, .int 1), (2, .int x_43), (0, .ref h0)]) hx hb dX12_fact_39 rfl hl (by decide) rfl (fun ls hl => ?_)
        refine lv_goto (tgt := 72) hx hb dX12_fact_40 (by decide) ?_
        refine lv_goto (tgt := 2) hx hb dX12_fact_72 (by decide) ?_
        have k_185 : σ_41 h0 11 = tx := (FR.at fσ_41 th0 (by decide)).trans k_10
        have k_186 : σ_57 h0 11 = tx := (FR.at fσ_57 th0 (by decide)).trans k_185
        have k_187 : σ_149 h0 11 = tx := (FR.at fσ_149 th0 (by decide)).trans k_186
        have k_188 : σ_166 h0 11 = tx := (FR.at fσ_166 th0 (by decide)).trans k_187
        have k_189 := FR.row fσ_41 tbg (fun j => by simp)
        have k_190 := FR.row fσ_57 tbg (fun j => by simp)
        have k_191 := FR.row fσ_149 tbg (fun j => by simp)
        have k_192 := FR.row fσ_166 tbg (fun j => by simp)
        have k_193 := FR.row fσ_41 tbl (fun j => by simp)
        have k_194 := FR.row fσ_57 tbl (fun j => by simp)
        have k_195 := FR.row fσ_149 tbl (fun j => by simp)
        have k_196 := FR.row fσ_166 tbl (fun j => by simp)
        have ex_197 : EX (σ bg) (σ bl) (σ_166 bg) (σ_166 bl) tx := by rw [((k_192).trans ((k_191).trans ((k_190).trans (k_189)))), ((k_196).trans ((k_195).trans ((k_194).trans (k_193))))]; exact g_13
        exact ih_9 ⟨1, σ_166, ρ_167⟩ _ _ _ ⟨(by decide), (by decide), k_188, k_172, k_174, ex_197, TO1, (by omega), hB, hS, lv_sub hl [0, 2] rfl⟩ (by show (2 * (400 - (σ_166 h0 8).toInt) + (1 : Int32).toInt).toNat < (2 * (400 - (σ_7 h0 8).toInt) + (i_6 : Int32).toInt).toNat; have z1 : (1 : Int32).toInt = 1 := (by decide); have z0 : (0 : Int32).toInt = 0 := (by decide); omega)
      · skip
        have uc_163 := i_eq (n := 0) (by decide) c_163
        refine lv_iconst (v := 0) hx hb dX12_fact_32 (by decide) ?_
        have k_198 := FR.row fσ_41 tbg (fun j => by simp)
        have k_199 := FR.row fσ_57 tbg (fun j => by simp)
        have k_200 := FR.row fσ_149 tbg (fun j => by simp)
        have k_201 := FR.row fσ_41 tbl (fun j => by simp)
        have k_202 := FR.row fσ_57 tbl (fun j => by simp)
        have k_203 := FR.row fσ_149 tbl (fun j => by simp)
        have ex_204 : EX (σ bg) (σ bl) (σ_149 bg) (σ_149 bl) tx := by rw [((k_200).trans ((k_199).trans (k_198))), ((k_203).trans ((k_202).trans (k_201)))]; exact g_13
        exact W.zret (v := 0) hx hb hr rfl (fun t ht hW => ⟨⟨0, (σ_149, ρ_150), rfl, ⟨hB.2.1, hB.2.2, ⟨(show 0 ≤ (0 : Int32).toInt ∧ (0 : Int32).toInt ≤ 1 from ⟨by decide, by decide⟩), (show (σ h0 8).toInt ≤ (σ_149 h0 8).toInt from (by rw [k_155]; omega)), (show EX (σ bg) (σ bl) (σ_149 bg) (σ_149 bl) tx from ex_204), (show (0 : Int32).toInt = 1 → TV σ_149 h0 bg bl bo tx w2 1 from (fun h => absurd h (by decide)))⟩⟩, (show TP D cA L T r σ_149 ρ_150 t.heap from by rw [ht]; exact hB.1)⟩, hS.F ht⟩) hS.2.2 dX12_fact_33
