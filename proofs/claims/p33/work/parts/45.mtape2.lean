set_option maxHeartbeats 4000000 in
set_option maxRecDepth 100000 in
theorem cz_X12_passWord (l : Launch) (D : va_G) (cA : Nat → ClassId) (L : List Nat) (T : Nat → Nat) (r : Rg) (hG : GR L T r) (hL : L.Nodup) (σ : Sg) (ρ : Lg) (hW : WT L ry T σ) (sz : Nat) (h0 : Nat) (mh0 : h0 ∈ L) (th0 : T h0 = 12) (bt : Nat) (hbt : r h0 0 = some bt) (mbt : bt ∈ L) (tbt : T bt = 61) : Met l yX12_passWord (.code yX12_passWord cX12_passWord 1 none :: wsA) ({ frames := 1, cells := 0, slots := 0, locals := 21 }) (PR D cA L T r σ ρ sz [.ref h0]) (QV D cA L T r ry [(12, 8)] σ sz (fun σ1 => ((σ h0 8).toInt ≤ (σ1 h0 8).toInt) ∧ (((σ h0 8).toInt < (σ h0 1).toInt ∧ 97 ≤ (σ bt (σ h0 8).toNatClampNeg).toInt ∧ (σ bt (σ h0 8).toNatClampNeg).toInt ≤ 122) → (σ h0 8).toInt + 1 ≤ (σ1 h0 8).toInt))) 0 0 (dm L sz) := by
  refine Met.ofW (cc := cX12_passWord) (maxL := 1) (ret := none) (by decide) rfl ?_
  intro p e s m args below meth c s₁ B hml hv
  obtain ⟨rfl, hsz, hP, hK, hN⟩ := hv
  have hx := B.exec
  have hb := B.bytes
  have hr := B.returns
  have hts : ∀ w ∈ wsA, w.before _ s = true := fun w h => atoms_spec (ws := .code yX12_passWord cX12_passWord 1 none :: wsA) B.pre w (List.mem_cons_of_mem _ h)
  have hown : s.vm.findClass RX12 = some m.cls := findClass_of_methodNamed B.named
  subst hsz
  have hLA : LA (dm L s.heap.size) L := ⟨hL, fun a h => Or.inl h⟩
  have hA : ∀ q : Nat, s.heap.size ≤ q → dm L s.heap.size q := fun q h => Or.inr h
  have hS : va_S (dm L s.heap.size) s.heap s.heap [] := va_S.rf
  have hB : TS D cA L T r ry [(12, 8)] σ σ ρ s.heap := ⟨hP, hW, FR.rf⟩
  have hl := lv_entry ([.ref h0]) (n := 1) (Nat.le_of_ble_eq_true rfl)
  rw [lg_entry_eq]
  generalize (lg_sl ([.ref h0]) ++ List.replicate (1 - (lg_sl ([.ref h0])).length) Slot.unset).toArray = ls at hl ⊢
  have hl : lv_has ls 1 [(0, .ref h0)] := hl
  have w_1 : 0 ≤ (σ h0 8).toInt ∧ (σ h0 8).toInt ≤ 400 := by have z := hB.2.1 h0 mh0 8; rw [th0] at z; exact z
  have w_2 : 0 ≤ (σ h0 1).toInt ∧ (σ h0 1).toInt ≤ 400 := by have z := hB.2.1 h0 mh0 1; rw [th0] at z; exact z
  refine w_loop (α := Sg × Lg) (fun (σ_3, ρ_4) H locs ls => σ_3 h0 1 = (σ h0 1) ∧ ((σ h0 8).toInt ≤ (σ_3 h0 8).toInt) ∧ TS D cA L T r ry [(12, 8)] σ σ_3 ρ_4 H ∧ va_S (dm L s.heap.size) s.heap H locs ∧ lv_has ls 1 [(0, .ref h0)]) (fun (σ_3, ρ_4) => (400 - (σ_3 h0 8).toInt).toNat) ?_ ⟨σ, ρ⟩ ⟨rfl, (by omega), hB, hS, lv_sub hl [0] rfl⟩
  rintro ⟨σ_3, ρ_4⟩ H locs ls ⟨k_6, g_7, hB, hS, hl⟩ ih_5
  have w_8 : 0 ≤ (σ_3 h0 8).toInt ∧ (σ_3 h0 8).toInt ≤ 400 := by have z := hB.2.1 h0 mh0 8; rw [th0] at z; exact z
  have cq_9 := congrArg Int32.toInt k_6
  have rb_10 := FR.row hB.2.2 tbt (fun j => by simp)
  have rb_10z := congrArg Int32.toInt (congrFun rb_10 (σ_3 h0 8).toNatClampNeg)
  refine lv_aload_n hx hb dX12_passWord_0 rfl (lv_at hl 0 rfl) ?_
  refine lv_aload_n hx hb dX12_passWord_1 rfl (lv_at hl 0 rfl) ?_
  refine t_gv hx hb hts hown hK hB mh0 th0 fi_12_8 rfl mw_5_224 dX12_passWord_2 ?_
  refine t_ci (va_runV (As := [.int (σ_3 h0 8)]) (rest := []) ⟨hx, hb, hml, hown, hts⟩ (cz_X12_isLetter l D cA L T r hG hLA.1 σ_3 ρ_4 hB.2.1 _ h0 mh0 th0 ((σ_3 h0 8)) bt hbt mbt tbt (by first | omega | decide)) (cV hts mv_X12_isLetter mw_6_147 rfl rfl ⟨Nat.le_of_ble_eq_true rfl, Nat.le_of_ble_eq_true rfl⟩) (pV hB.1 hK hN mh0 th0 (show shp cA 12 _ _ _ = .inr (12, Fs12 _ _ _) from rfl) rfl) rfl rfl hl.1 rfl (lv_room (Nat.le_of_ble_eq_true rfl)) dX12_passWord_5 ⟨Nat.le_of_ble_eq_true rfl, Nat.le_of_ble_eq_true rfl⟩) hLA hA hB hS (by decide) (fun x_13 σ_11 ρ_12 H locs hB fσ_11 pσ_11 hS => ?_)
  have qσ_11 := FR.nil fσ_11
  subst qσ_11
  obtain ⟨ox_13, ix_13⟩ := pσ_11
  refine lv_if_eq (tgt := 24) hx hb dX12_passWord_8 (by decide) (fun c_14 => ?_) (fun c_14 => ?_)
  · skip
    have uc_14 := i_eq (n := 0) (by decide) c_14
    exact W.vret hx hb hr (fun t ht hW => ⟨⟨(σ_3, ρ_12), rfl, ⟨hB.2.1, hB.2.2, ⟨(show (σ h0 8).toInt ≤ (σ_3 h0 8).toInt from (by omega)), (show ((σ h0 8).toInt < (σ h0 1).toInt ∧ 97 ≤ (σ bt (σ h0 8).toNatClampNeg).toInt ∧ (σ bt (σ h0 8).toNatClampNeg).toInt ≤ 122) → (σ h0 8).toInt + 1 ≤ (σ_3 h0 8).toInt from (fun q => by by_cases e : (σ_3 h0 8).toInt = (σ h0 8).toInt; (exfalso; have z := nb_c (f := σ bt) e; omega); omega))⟩⟩, (show TP D cA L T r σ_3 ρ_12 t.heap from by rw [ht]; exact hB.1)⟩, hS.F ht⟩) hS.2.2 dX12_passWord_24
  · skip
    have uc_14 := i_ne (n := 0) (by decide) c_14
    refine lv_aload_n hx hb dX12_passWord_11 rfl (lv_at hl 0 rfl) ?_
    refine lv_dup hx hb dX12_passWord_12 rfl ?_
    refine t_gv hx hb hts hown hK hB mh0 th0 fi_12_8 rfl mw_5_224 dX12_passWord_13 ?_
    refine lv_iconst (v := 1) hx hb dX12_passWord_16 (by decide) ?_
    refine lv_iadd hx hb dX12_passWord_17 ?_
    refine lv_topi (fun x_15 ex_15 => ?_)
    have vx_15 := b_add (rfl : (σ_3 h0 8).toInt = _) (by decide : (1 : Int32).toInt = 1) ex_15 (by omega) (by omega)
    refine t_pi hx hb hts hown hK hLA hB hS mh0 th0 fi_12_8 rfl rfl rfl (by first | omega | (subst_vars; omega)) (by first | omega | (subst_vars; omega)) (Or.inl (by decide)) mw_5_224 dX12_passWord_18 (fun H locs σ_16 eσ_16 hB hS => ?_)
    have k_17 : σ_16 h0 8 = x_15 := by rw [eσ_16]; exact up2_same _ _ _ _
    refine lv_goto (tgt := 0) hx hb dX12_passWord_21 (by decide) ?_
    have k_18 : σ_16 h0 1 = (σ h0 1) := by rw [eσ_16, up2_nej _ _ (by decide)]; exact k_6
    exact ih_5 ⟨σ_16, ρ_12⟩ _ _ _ ⟨k_18, (by rw [k_17]; omega), hB, hS, lv_sub hl [0] rfl⟩ (by show (400 - (σ_16 h0 8).toInt).toNat < (400 - (σ_3 h0 8).toInt).toNat; rw [k_17]; omega)
set_option maxHeartbeats 4000000 in
set_option maxRecDepth 100000 in
theorem cz_X12_takesWord (l : Launch) (D : va_G) (cA : Nat → ClassId) (L : List Nat) (T : Nat → Nat) (r : Rg) (hG : GR L T r) (hL : L.Nodup) (σ : Sg) (ρ : Lg) (hW : WT L ry T σ) (sz : Nat) (h0 : Nat) (mh0 : h0 ∈ L) (th0 : T h0 = 12) (p1 : Int64) (bt : Nat) (hbt : r h0 0 = some bt) (mbt : bt ∈ L) (tbt : T bt = 61) : Met l yX12_takesWord (.code yX12_takesWord cX12_takesWord 3 (some .boolean) :: wsA) ({ frames := 2, cells := 0, slots := 0, locals := 46 }) (PR D cA L T r σ ρ sz [.ref h0, .long p1]) (QI D cA L T r ry [(12, 8)] σ sz (fun x σ1 => (0 ≤ x.toInt ∧ x.toInt ≤ 1) ∧ ((σ h0 8).toInt ≤ (σ1 h0 8).toInt))) 0 0 (dm L sz) := by
  refine Met.ofW (cc := cX12_takesWord) (maxL := 3) (ret := (some .boolean)) (by decide) rfl ?_
  intro p e s m args below meth c s₁ B hml hv
  obtain ⟨rfl, hsz, hP, hK, hN⟩ := hv
  have hx := B.exec
  have hb := B.bytes
  have hr := B.returns
  have hts : ∀ w ∈ wsA, w.before _ s = true := fun w h => atoms_spec (ws := .code yX12_takesWord cX12_takesWord 3 (some .boolean) :: wsA) B.pre w (List.mem_cons_of_mem _ h)
  have hown : s.vm.findClass RX12 = some m.cls := findClass_of_methodNamed B.named
  subst hsz
  have hLA : LA (dm L s.heap.size) L := ⟨hL, fun a h => Or.inl h⟩
  have hA : ∀ q : Nat, s.heap.size ≤ q → dm L s.heap.size q := fun q h => Or.inr h
  have hS : va_S (dm L s.heap.size) s.heap s.heap [] := va_S.rf
  have hB : TS D cA L T r ry [(12, 8)] σ σ ρ s.heap := ⟨hP, hW, FR.rf⟩
  have hl := lv_entry ([.ref h0, .long p1]) (n := 3) (Nat.le_of_ble_eq_true rfl)
  rw [lg_entry_eq]
  generalize (lg_sl ([.ref h0, .long p1]) ++ List.replicate (3 - (lg_sl ([.ref h0, .long p1])).length) Slot.unset).toArray = ls at hl ⊢
  have hl : lv_has ls 3 [(0, .ref h0), (1, .long p1)] := hl
  have w_1 : 0 ≤ (σ h0 8).toInt ∧ (σ h0 8).toInt ≤ 400 := by have z := hB.2.1 h0 mh0 8; rw [th0] at z; exact z
  have w_2 : 0 ≤ (σ h0 1).toInt ∧ (σ h0 1).toInt ≤ 400 := by have z := hB.2.1 h0 mh0 1; rw [th0] at z; exact z
  refine lv_aload_n hx hb dX12_takesWord_0 rfl (lv_at hl 0 rfl) ?_
  refine lv_lload_n hx hb dX12_takesWord_1 rfl (lv_at hl 1 rfl) ?_
  refine t_ci (va_runV (As := [.long p1]) (rest := []) ⟨hx, hb, hml, hown, hts⟩ (cz_X12_isWord l D cA L T r hG hLA.1 σ ρ hB.2.1 _ h0 mh0 th0 p1 bt hbt mbt tbt) (cV hts mv_X12_isWord mw_6_143 rfl rfl ⟨Nat.le_of_ble_eq_true rfl, Nat.le_of_ble_eq_true rfl⟩) (pV hB.1 hK hN mh0 th0 (show shp cA 12 _ _ _ = .inr (12, Fs12 _ _ _) from rfl) rfl) rfl rfl hl.1 rfl (lv_room (Nat.le_of_ble_eq_true rfl)) dX12_takesWord_2 ⟨Nat.le_of_ble_eq_true rfl, Nat.le_of_ble_eq_true rfl⟩) hLA hA hB hS (by decide) (fun x_5 σ_3 ρ_4 H locs hB fσ_3 pσ_3 hS => ?_)
  obtain ⟨g_6, g_7, g_8, g_9⟩ := pσ_3
  have w_10 : 0 ≤ (σ_3 h0 8).toInt ∧ (σ_3 h0 8).toInt ≤ 400 := by have z := hB.2.1 h0 mh0 8; rw [th0] at z; exact z
  obtain ⟨lx_5, ux_5⟩ := g_6
  refine lv_if_ne (tgt := 10) hx hb dX12_takesWord_5 (by decide) (fun c_11 => ?_) (fun c_11 => ?_)
  · skip
    have uc_11 := i_ne (n := 0) (by decide) c_11
    refine lv_aload_n hx hb dX12_takesWord_10 rfl (lv_at hl 0 rfl) ?_
    refine t_cv (va_runV (As := []) (rest := []) ⟨hx, hb, hml, hown, hts⟩ (cz_X12_passWord l D cA L T r hG hLA.1 σ_3 ρ_4 hB.2.1 _ h0 mh0 th0 bt hbt mbt tbt) (cV hts mv_X12_passWord mw_6_169 rfl rfl ⟨Nat.le_of_ble_eq_true rfl, Nat.le_of_ble_eq_true rfl⟩) (pV hB.1 hK hN mh0 th0 (show shp cA 12 _ _ _ = .inr (12, Fs12 _ _ _) from rfl) rfl) rfl rfl hl.1 rfl (lv_room (Nat.le_of_ble_eq_true rfl)) dX12_takesWord_11 ⟨Nat.le_of_ble_eq_true rfl, Nat.le_of_ble_eq_true rfl⟩) hLA hA hB hS (by decide) (fun σ_12 ρ_13 H locs hB fσ_12 pσ_12 hS => ?_)
    obtain ⟨g_15, g_16⟩ := pσ_12
    have w_17 : 0 ≤ (σ_12 h0 8).toInt ∧ (σ_12 h0 8).toInt ≤ 400 := by have z := hB.2.1 h0 mh0 8; rw [th0] at z; exact z
    refine lv_iconst (v := 1) hx hb dX12_takesWord_14 (by decide) ?_
    exact W.zret (v := 1) hx hb hr rfl (fun t ht hW => ⟨⟨1, (σ_12, ρ_13), rfl, ⟨hB.2.1, hB.2.2, ⟨(show 0 ≤ (1 : Int32).toInt ∧ (1 : Int32).toInt ≤ 1 from ⟨by decide, by decide⟩), (show (σ h0 8).toInt ≤ (σ_12 h0 8).toInt from (by omega))⟩⟩, (show TP D cA L T r σ_12 ρ_13 t.heap from by rw [ht]; exact hB.1)⟩, hS.F ht⟩) hS.2.2 dX12_takesWord_15
  · skip
    have uc_11 := i_eq (n := 0) (by decide) c_11
    refine lv_iconst (v := 0) hx hb dX12_takesWord_8 (by decide) ?_
    exact W.zret (v := 0) hx hb hr rfl (fun t ht hW => ⟨⟨0, (σ_3, ρ_4), rfl, ⟨hB.2.1, hB.2.2, ⟨(show 0 ≤ (0 : Int32).toInt ∧ (0 : Int32).toInt ≤ 1 from ⟨by decide, by decide⟩), (show (σ h0 8).toInt ≤ (σ_3 h0 8).toInt from (by omega))⟩⟩, (show TP D cA L T r σ_3 ρ_4 t.heap from by rw [ht]; exact hB.1)⟩, hS.F ht⟩) hS.2.2 dX12_takesWord_9
set_option maxHeartbeats 4000000 in
set_option maxRecDepth 100000 in
theorem cz_X12_numberHere (l : Launch) (D : va_G) (cA : Nat → ClassId) (L : List Nat) (T : Nat → Nat) (r : Rg) (hG : GR L T r) (hL : L.Nodup) (σ : Sg) (ρ : Lg) (hW : WT L ry T σ) (sz : Nat) (h0 : Nat) (mh0 : h0 ∈ L) (th0 : T h0 = 12) (p1 : Int32) (p2 : Int32) (bt : Nat) (hbt : r h0 0 = some bt) (mbt : bt ∈ L) (tbt : T bt = 61) : Met l yX12_numberHere (.code yX12_numberHere cX12_numberHere 5 (some .boolean) :: wsA) ({ frames := 1, cells := 0, slots := 0, locals := 25 }) (PR D cA L T r σ ρ sz [.ref h0, .int p1, .int p2]) (QI D cA L T r ry [(12, 8), (12, 9), (12, 10)] σ sz (fun x σ1 => (0 ≤ x.toInt ∧ x.toInt ≤ 1) ∧ ((σ h0 8).toInt ≤ (σ1 h0 8).toInt) ∧ (x.toInt = 1 → p1.toInt ≤ (σ1 h0 10).toInt ∧ (σ1 h0 10).toInt ≤ p2.toInt) ∧ (x.toInt = 1 → (σ h0 8).toInt + 1 ≤ (σ1 h0 8).toInt))) 0 0 (dm L sz) := by
  refine Met.ofW (cc := cX12_numberHere) (maxL := 5) (ret := (some .boolean)) (by decide) rfl ?_
  intro p e s m args below meth c s₁ B hml hv
  obtain ⟨rfl, hsz, hP, hK, hN⟩ := hv
  have hx := B.exec
  have hb := B.bytes
  have hr := B.returns
  have hts : ∀ w ∈ wsA, w.before _ s = true := fun w h => atoms_spec (ws := .code yX12_numberHere cX12_numberHere 5 (some .boolean) :: wsA) B.pre w (List.mem_cons_of_mem _ h)
  have hown : s.vm.findClass RX12 = some m.cls := findClass_of_methodNamed B.named
  subst hsz
  have hLA : LA (dm L s.heap.size) L := ⟨hL, fun a h => Or.inl h⟩
  have hA : ∀ q : Nat, s.heap.size ≤ q → dm L s.heap.size q := fun q h => Or.inr h
  have hS : va_S (dm L s.heap.size) s.heap s.heap [] := va_S.rf
  have hB : TS D cA L T r ry [(12, 8), (12, 9), (12, 10)] σ σ ρ s.heap := ⟨hP, hW, FR.rf⟩
  have hl := lv_entry ([.ref h0, .int p1, .int p2]) (n := 5) (Nat.le_of_ble_eq_true rfl)
  rw [lg_entry_eq]
  generalize (lg_sl ([.ref h0, .int p1, .int p2]) ++ List.replicate (5 - (lg_sl ([.ref h0, .int p1, .int p2])).length) Slot.unset).toArray = ls at hl ⊢
  have hl : lv_has ls 5 [(0, .ref h0), (1, .int p1), (2, .int p2)] := hl
  have w_1 : 0 ≤ (σ h0 8).toInt ∧ (σ h0 8).toInt ≤ 400 := by have z := hB.2.1 h0 mh0 8; rw [th0] at z; exact z
  have w_2 : 0 ≤ (σ h0 1).toInt ∧ (σ h0 1).toInt ≤ 400 := by have z := hB.2.1 h0 mh0 1; rw [th0] at z; exact z
  refine lv_aload_n hx hb dX12_numberHere_0 rfl (lv_at hl 0 rfl) ?_
  refine t_ci (va_runV (As := []) (rest := []) ⟨hx, hb, hml, hown, hts⟩ (cz_X12_see l D cA L T r hG hLA.1 σ ρ hB.2.1 _ h0 mh0 th0 bt hbt mbt tbt) (cV hts mv_X12_see mw_6_134 rfl rfl ⟨Nat.le_of_ble_eq_true rfl, Nat.le_of_ble_eq_true rfl⟩) (pV hB.1 hK hN mh0 th0 (show shp cA 12 _ _ _ = .inr (12, Fs12 _ _ _) from rfl) rfl) rfl rfl hl.1 rfl (lv_room (Nat.le_of_ble_eq_true rfl)) dX12_numberHere_1 ⟨Nat.le_of_ble_eq_true rfl, Nat.le_of_ble_eq_true rfl⟩) hLA hA hB hS (by decide) (fun x_5 σ_3 ρ_4 H locs hB fσ_3 pσ_3 hS => ?_)
  obtain ⟨g_6, g_7, g_8, g_9⟩ := pσ_3
  have w_10 : 0 ≤ (σ_3 h0 8).toInt ∧ (σ_3 h0 8).toInt ≤ 400 := by have z := hB.2.1 h0 mh0 8; rw [th0] at z; exact z
  obtain ⟨lx_5, ux_5⟩ := g_6
  refine lv_pop hx hb dX12_numberHere_4 rfl ?_
  refine lv_aload_n hx hb dX12_numberHere_5 rfl (lv_at hl 0 rfl) ?_
  refine lv_aload_n hx hb dX12_numberHere_6 rfl (lv_at hl 0 rfl) ?_
  refine t_gv hx hb hts hown hK hB mh0 th0 fi_12_8 rfl mw_5_224 dX12_numberHere_7 ?_
  refine t_ci (va_runV (As := [.int (σ_3 h0 8)]) (rest := []) ⟨hx, hb, hml, hown, hts⟩ (cz_X12_isDigit l D cA L T r hG hLA.1 σ_3 ρ_4 hB.2.1 _ h0 mh0 th0 ((σ_3 h0 8)) bt hbt mbt tbt (by first | omega | decide)) (cV hts mv_X12_isDigit mw_6_181 rfl rfl ⟨Nat.le_of_ble_eq_true rfl, Nat.le_of_ble_eq_true rfl⟩) (pV hB.1 hK hN mh0 th0 (show shp cA 12 _ _ _ = .inr (12, Fs12 _ _ _) from rfl) rfl) rfl rfl hl.1 rfl (lv_room (Nat.le_of_ble_eq_true rfl)) dX12_numberHere_10 ⟨Nat.le_of_ble_eq_true rfl, Nat.le_of_ble_eq_true rfl⟩) hLA hA hB hS (by decide) (fun x_13 σ_11 ρ_12 H locs hB fσ_11 pσ_11 hS => ?_)
  have qσ_11 := FR.nil fσ_11
  subst qσ_11
  obtain ⟨ox_13, ix_13⟩ := pσ_11
  refine lv_if_ne (tgt := 26) hx hb dX12_numberHere_13 (by decide) (fun c_14 => ?_) (fun c_14 => ?_)
  · skip
    have uc_14 := i_ne (n := 0) (by decide) c_14
    have k_15 : σ_3 h0 1 = (σ h0 1) := (FR.at fσ_3 th0 (by decide)).trans rfl
    have cq_16 := congrArg Int32.toInt k_15
    have rb_17 := FR.row hB.2.2 tbt (fun j => by simp)
    have rb_17z := congrArg Int32.toInt (congrFun rb_17 (σ_3 h0 8).toNatClampNeg)
    refine lv_aload_n hx hb dX12_numberHere_26 rfl (lv_at hl 0 rfl) ?_
    refine t_gv hx hb hts hown hK hB mh0 th0 fi_12_8 rfl mw_5_224 dX12_numberHere_27 ?_
    refine lv_istore_n (lv' := [(3, .int (σ_3 h0 8)), (0, .ref h0), (1, .int p1), (2, .int p2)]) hx hb dX12_numberHere_30 rfl hl (by decide) rfl (fun ls hl => ?_)
    refine lv_iconst (v := 0) hx hb dX12_numberHere_31 (by decide) ?_
    refine lv_istore (lv' := [(4, .int 0), (3, .int (σ_3 h0 8)), (0, .ref h0), (1, .int p1), (2, .int p2)]) hx hb dX12_numberHere_32 hl (by decide) rfl (fun ls hl => ?_)
    refine w_loop (α := Int32 × Sg × Lg) (fun (i_18, σ_19, ρ_20) H locs ls => σ_19 h0 1 = (σ h0 1) ∧ ((σ h0 8).toInt ≤ (σ_19 h0 8).toInt) ∧ ((σ_3 h0 8).toInt ≤ (σ_19 h0 8).toInt) ∧ TS D cA L T r ry [(12, 8), (12, 9), (12, 10)] σ σ_19 ρ_20 H ∧ va_S (dm L s.heap.size) s.heap H locs ∧ lv_has ls 5 [(4, .int i_18), (3, .int (σ_3 h0 8)), (0, .ref h0), (1, .int p1), (2, .int p2)]) (fun (i_18, σ_19, ρ_20) => (400 - (σ_19 h0 8).toInt).toNat) ?_ ⟨0, σ_3, ρ_12⟩ ⟨k_15, (by omega), (by omega), hB, hS, lv_sub hl [0, 1, 2, 3, 4] rfl⟩
    rintro ⟨i_18, σ_19, ρ_20⟩ H locs ls ⟨k_22, g_23, g_24, hB, hS, hl⟩ ih_21
    have w_25 : 0 ≤ (σ_19 h0 8).toInt ∧ (σ_19 h0 8).toInt ≤ 400 := by have z := hB.2.1 h0 mh0 8; rw [th0] at z; exact z
    have cq_26 := congrArg Int32.toInt k_22
    have rb_27 := FR.row hB.2.2 tbt (fun j => by simp)
    have rb_27z := congrArg Int32.toInt (congrFun rb_27 (σ_19 h0 8).toNatClampNeg)
    have na : ∀ e : (σ_19 h0 8).toInt = (σ_3 h0 8).toInt, (σ bt (σ_19 h0 8).toNatClampNeg).toInt = (σ bt (σ_3 h0 8).toNatClampNeg).toInt := fun e => nb_c (f := σ bt) e
    refine lv_aload_n hx hb dX12_numberHere_34 rfl (lv_at hl 2 rfl) ?_
    refine lv_aload_n hx hb dX12_numberHere_35 rfl (lv_at hl 2 rfl) ?_
    refine t_gv hx hb hts hown hK hB mh0 th0 fi_12_8 rfl mw_5_224 dX12_numberHere_36 ?_
    refine t_ci (va_runV (As := [.int (σ_19 h0 8)]) (rest := []) ⟨hx, hb, hml, hown, hts⟩ (cz_X12_isDigit l D cA L T r hG hLA.1 σ_19 ρ_20 hB.2.1 _ h0 mh0 th0 ((σ_19 h0 8)) bt hbt mbt tbt (by first | omega | decide)) (cV hts mv_X12_isDigit mw_6_181 rfl rfl ⟨Nat.le_of_ble_eq_true rfl, Nat.le_of_ble_eq_true rfl⟩) (pV hB.1 hK hN mh0 th0 (show shp cA 12 _ _ _ = .inr (12, Fs12 _ _ _) from rfl) rfl) rfl rfl hl.1 rfl (lv_room (Nat.le_of_ble_eq_true rfl)) dX12_numberHere_39 ⟨Nat.le_of_ble_eq_true rfl, Nat.le_of_ble_eq_true rfl⟩) hLA hA hB hS (by decide) (fun x_30 σ_28 ρ_29 H locs hB fσ_28 pσ_28 hS => ?_)
    have qσ_28 := FR.nil fσ_28
    subst qσ_28
    obtain ⟨ox_30, ix_30⟩ := pσ_28
    refine lv_if_eq (tgt := 88) hx hb dX12_numberHere_42 (by decide) (fun c_31 => ?_) (fun c_31 => ?_)
    · skip
      have uc_31 := i_eq (n := 0) (by decide) c_31
      refine lv_aload_n hx hb dX12_numberHere_88 rfl (lv_at hl 2 rfl) ?_
      refine lv_iload hx hb dX12_numberHere_89 (lv_at hl 0 rfl) ?_
      refine t_pi hx hb hts hown hK hLA hB hS mh0 th0 fi_12_10 rfl rfl rfl (i_lo _) (i_hi _) (Or.inl (by decide)) mw_5_226 dX12_numberHere_91 (fun H locs σ_32 eσ_32 hB hS => ?_)
      have k_33 : σ_32 h0 10 = i_18 := by rw [eσ_32]; exact up2_same _ _ _ _
      refine lv_aload_n hx hb dX12_numberHere_94 rfl (lv_at hl 2 rfl) ?_
      have k_34 : σ_32 h0 8 = (σ_19 h0 8) := by rw [eσ_32, up2_nej _ _ (by decide)]
      refine t_gv hx hb hts hown hK hB mh0 th0 fi_12_8 k_34 mw_5_224 dX12_numberHere_95 ?_
      refine lv_iload_n hx hb dX12_numberHere_98 rfl (lv_at hl 1 rfl) ?_
      refine lv_isub hx hb dX12_numberHere_99 ?_
      refine lv_topi (fun x_35 ex_35 => ?_)
      have vx_35 := b_sub (rfl : (σ_19 h0 8).toInt = _) (rfl : (σ_3 h0 8).toInt = _) ex_35 (by omega) (by omega)
      refine lv_iconst (v := 5) hx hb dX12_numberHere_100 (by decide) ?_
      refine lv_icmp_gt (tgt := 117) hx hb dX12_numberHere_101 (by decide) (fun c_36 => ?_) (fun c_36 => ?_)
      · skip
        have uc_36 := i_gt (n := 5) (by decide) c_36
        refine lv_aload_n hx hb dX12_numberHere_117 rfl (lv_at hl 2 rfl) ?_
        refine lv_iconst (v := 1) hx hb dX12_numberHere_118 (by decide) ?_
        refine lv_iload_n hx hb dX12_numberHere_119 rfl (lv_at hl 1 rfl) ?_
        refine t_ci (va_runV (As := [.int 1, .int (σ_3 h0 8)]) (rest := []) ⟨hx, hb, hml, hown, hts⟩ (cy_X12_fails l D cA L T r hG hLA.1 σ_32 ρ_29 hB.2.1 _ h0 mh0 th0 1 ((σ_3 h0 8)) (by first | omega | decide) (by first | omega | decide) (by first | omega | decide) (by first | omega | decide)) (cV hts mv_X12_fails mw_6_157 rfl rfl ⟨Nat.le_of_ble_eq_true rfl, Nat.le_of_ble_eq_true rfl⟩) (pV hB.1 hK hN mh0 th0 (show shp cA 12 _ _ _ = .inr (12, Fs12 _ _ _) from rfl) rfl) rfl rfl hl.1 rfl (lv_room (Nat.le_of_ble_eq_true rfl)) dX12_numberHere_120 ⟨Nat.le_of_ble_eq_true rfl, Nat.le_of_ble_eq_true rfl⟩) hLA hA hB hS (by decide) (fun x_39 σ_37 ρ_38 H locs hB fσ_37 pσ_37 hS => ?_)
        subst pσ_37
        refine lv_if_eq (tgt := 130) hx hb dX12_numberHere_123 (by decide) (fun _ => ?_) (fun c9 => absurd (by decide) c9)
        refine lv_iconst (v := 0) hx hb dX12_numberHere_130 (by decide) ?_
        have k_40 : σ_37 h0 8 = (σ_19 h0 8) := (FR.at fσ_37 th0 (by decide)).trans k_34
        exact W.zret (v := 0) hx hb hr rfl (fun t ht hW => ⟨⟨0, (σ_37, ρ_38), rfl, ⟨hB.2.1, hB.2.2, ⟨(show 0 ≤ (0 : Int32).toInt ∧ (0 : Int32).toInt ≤ 1 from ⟨by decide, by decide⟩), (show (σ h0 8).toInt ≤ (σ_37 h0 8).toInt from (by rw [k_40]; omega)), (show (0 : Int32).toInt = 1 → p1.toInt ≤ (σ_37 h0 10).toInt ∧ (σ_37 h0 10).toInt ≤ p2.toInt from (fun h => absurd h (by decide))), (show (0 : Int32).toInt = 1 → (σ h0 8).toInt + 1 ≤ (σ_37 h0 8).toInt from (fun h => absurd h (by decide)))⟩⟩, (show TP D cA L T r σ_37 ρ_38 t.heap from by rw [ht]; exact hB.1)⟩, hS.F ht⟩) hS.2.2 dX12_numberHere_131
      · skip
        have uc_36 := i_ngt (n := 5) (by decide) c_36
        refine lv_iload hx hb dX12_numberHere_104 (lv_at hl 0 rfl) ?_
        refine lv_i2l (v := i_18.toInt64) hx hb dX12_numberHere_106 rfl ?_
        refine lv_iload_n hx hb dX12_numberHere_107 rfl (lv_at hl 3 rfl) ?_
        refine lv_i2l (v := p1.toInt64) hx hb dX12_numberHere_108 rfl ?_
        refine lv_iload_n hx hb dX12_numberHere_109 rfl (lv_at hl 4 rfl) ?_
        refine lv_i2l (v := p2.toInt64) hx hb dX12_numberHere_110 rfl ?_
        refine t_ci (va_runS (As := [.long i_18.toInt64, .long p1.toInt64, .long p2.toInt64]) (rest := []) ⟨hx, hb, hml, hown, hts⟩ (cy_X12_in_g l D cA L T r hG hLA.1 σ_32 ρ_29 hB.2.1 _ i_18 p1 p2) (cS hts ms_X12_in mw_6_185 rfl rfl ⟨Nat.le_of_ble_eq_true rfl, Nat.le_of_ble_eq_true rfl⟩) (pS hB.1 hK hN) rfl rfl hl.1 rfl (lv_room (Nat.le_of_ble_eq_true rfl)) dX12_numberHere_111 ⟨Nat.le_of_ble_eq_true rfl, Nat.le_of_ble_eq_true rfl⟩) hLA hA hB hS (by decide) (fun x_43 σ_41 ρ_42 H locs hB fσ_41 pσ_41 hS => ?_)
        have qσ_41 := FR.nil fσ_41
        subst qσ_41
        obtain ⟨ox_43, ix_43⟩ := pσ_41
        refine lv_if_ne (tgt := 126) hx hb dX12_numberHere_114 (by decide) (fun c_44 => ?_) (fun c_44 => ?_)
        · skip
          have uc_44 := i_ne (n := 0) (by decide) c_44
          refine lv_iconst (v := 1) hx hb dX12_numberHere_126 (by decide) ?_
          refine lv_goto (tgt := 131) hx hb dX12_numberHere_127 (by decide) ?_
          exact W.zret (v := 1) hx hb hr rfl (fun t ht hW => ⟨⟨1, (σ_32, ρ_42), rfl, ⟨hB.2.1, hB.2.2, ⟨(show 0 ≤ (1 : Int32).toInt ∧ (1 : Int32).toInt ≤ 1 from ⟨by decide, by decide⟩), (show (σ h0 8).toInt ≤ (σ_32 h0 8).toInt from (by rw [k_34]; omega)), (show (1 : Int32).toInt = 1 → p1.toInt ≤ (σ_32 h0 10).toInt ∧ (σ_32 h0 10).toInt ≤ p2.toInt from (fun h => (by rw [k_33]; omega))), (show (1 : Int32).toInt = 1 → (σ h0 8).toInt + 1 ≤ (σ_32 h0 8).toInt from (fun h => by rw [k_34]; by_cases e : (σ_19 h0 8).toInt = (σ_3 h0 8).toInt; (exfalso; have z := na e; omega); omega))⟩⟩, (show TP D cA L T r σ_32 ρ_42 t.heap from by rw [ht]; exact hB.1)⟩, hS.F ht⟩) hS.2.2 dX12_numberHere_131
        · skip
          have uc_44 := i_eq (n := 0) (by decide) c_44
          refine lv_aload_n hx hb dX12_numberHere_117 rfl (lv_at hl 2 rfl) ?_
          refine lv_iconst (v := 1) hx hb dX12_numberHere_118 (by decide) ?_
          refine lv_iload_n hx hb dX12_numberHere_119 rfl (lv_at hl 1 rfl) ?_
          refine t_ci (va_runV (As := [.int 1, .int (σ_3 h0 8)]) (rest := []) ⟨hx, hb, hml, hown, hts⟩ (cy_X12_fails l D cA L T r hG hLA.1 σ_32 ρ_42 hB.2.1 _ h0 mh0 th0 1 ((σ_3 h0 8)) (by first | omega | decide) (by first | omega | decide) (by first | omega | decide) (by first | omega | decide)) (cV hts mv_X12_fails mw_6_157 rfl rfl ⟨Nat.le_of_ble_eq_true rfl, Nat.le_of_ble_eq_true rfl⟩) (pV hB.1 hK hN mh0 th0 (show shp cA 12 _ _ _ = .inr (12, Fs12 _ _ _) from rfl) rfl) rfl rfl hl.1 rfl (lv_room (Nat.le_of_ble_eq_true rfl)) dX12_numberHere_120 ⟨Nat.le_of_ble_eq_true rfl, Nat.le_of_ble_eq_true rfl⟩) hLA hA hB hS (by decide) (fun x_47 σ_45 ρ_46 H locs hB fσ_45 pσ_45 hS => ?_)
          subst pσ_45
          refine lv_if_eq (tgt := 130) hx hb dX12_numberHere_123 (by decide) (fun _ => ?_) (fun c9 => absurd (by decide) c9)
          refine lv_iconst (v := 0) hx hb dX12_numberHere_130 (by decide) ?_
          have k_48 : σ_45 h0 8 = (σ_19 h0 8) := (FR.at fσ_45 th0 (by decide)).trans k_34
          exact W.zret (v := 0) hx hb hr rfl (fun t ht hW => ⟨⟨0, (σ_45, ρ_46), rfl, ⟨hB.2.1, hB.2.2, ⟨(show 0 ≤ (0 : Int32).toInt ∧ (0 : Int32).toInt ≤ 1 from ⟨by decide, by decide⟩), (show (σ h0 8).toInt ≤ (σ_45 h0 8).toInt from (by rw [k_48]; omega)), (show (0 : Int32).toInt = 1 → p1.toInt ≤ (σ_45 h0 10).toInt ∧ (σ_45 h0 10).toInt ≤ p2.toInt from (fun h => absurd h (by decide))), (show (0 : Int32).toInt = 1 → (σ h0 8).toInt + 1 ≤ (σ_45 h0 8).toInt from (fun h => absurd h (by decide)))⟩⟩, (show TP D cA L T r σ_45 ρ_46 t.heap from by rw [ht]; exact hB.1)⟩, hS.F ht⟩) hS.2.2 dX12_numberHere_131
    · skip
      have uc_31 := i_ne (n := 0) (by decide) c_31
      refine lv_aload_n hx hb dX12_numberHere_45 rfl (lv_at hl 2 rfl) ?_
      refine t_gv hx hb hts hown hK hB mh0 th0 fi_12_8 rfl mw_5_224 dX12_numberHere_46 ?_
      refine lv_iload_n hx hb dX12_numberHere_49 rfl (lv_at hl 1 rfl) ?_
      refine lv_isub hx hb dX12_numberHere_50 ?_
      refine lv_topi (fun x_49 ex_49 => ?_)
      have vx_49 := b_sub (rfl : (σ_19 h0 8).toInt = _) (rfl : (σ_3 h0 8).toInt = _) ex_49 (by omega) (by omega)
      refine lv_iconst (v := 5) hx hb dX12_numberHere_51 (by decide) ?_
      refine lv_icmp_ge (tgt := 75) hx hb dX12_numberHere_52 (by decide) (fun c_50 => ?_) (fun c_50 => ?_)
      · skip
        have uc_50 := i_ge (n := 5) (by decide) c_50
        refine lv_aload_n hx hb dX12_numberHere_75 rfl (lv_at hl 2 rfl) ?_
        refine lv_dup hx hb dX12_numberHere_76 rfl ?_
        refine t_gv hx hb hts hown hK hB mh0 th0 fi_12_8 rfl mw_5_224 dX12_numberHere_77 ?_
        refine lv_iconst (v := 1) hx hb dX12_numberHere_80 (by decide) ?_
        refine lv_iadd hx hb dX12_numberHere_81 ?_
        refine lv_topi (fun x_51 ex_51 => ?_)
        have vx_51 := b_add (rfl : (σ_19 h0 8).toInt = _) (by decide : (1 : Int32).toInt = 1) ex_51 (by omega) (by omega)
        refine t_pi hx hb hts hown hK hLA hB hS mh0 th0 fi_12_8 rfl rfl rfl (by first | omega | (subst_vars; omega)) (by first | omega | (subst_vars; omega)) (Or.inl (by decide)) mw_5_224 dX12_numberHere_82 (fun H locs σ_52 eσ_52 hB hS => ?_)
        have k_53 : σ_52 h0 8 = x_51 := by rw [eσ_52]; exact up2_same _ _ _ _
        refine lv_goto (tgt := 34) hx hb dX12_numberHere_85 (by decide) ?_
        have k_54 : σ_52 h0 1 = (σ h0 1) := by rw [eσ_52, up2_nej _ _ (by decide)]; exact k_22
        exact ih_21 ⟨i_18, σ_52, ρ_29⟩ _ _ _ ⟨k_54, (by rw [k_53]; omega), (by rw [k_53]; omega), hB, hS, lv_sub hl [0, 1, 2, 3, 4] rfl⟩ (by show (400 - (σ_52 h0 8).toInt).toNat < (400 - (σ_19 h0 8).toInt).toNat; rw [k_53]; omega)
      · skip
        have uc_50 := i_nge (n := 5) (by decide) c_50
        refine lv_bipush (v := 10) hx hb dX12_numberHere_55 (by decide) ?_
        refine lv_iload hx hb dX12_numberHere_57 (lv_at hl 0 rfl) ?_
        refine lv_imul hx hb dX12_numberHere_59 ?_
        refine lv_topi (fun x_55 ex_55 => ?_)
        try have vx_55 := b_mul (by decide : (10 : Int32).toInt = 10) (rfl : i_18.toInt = _) ex_55 (by omega) (by omega)
        refine lv_aload_n hx hb dX12_numberHere_60 rfl (lv_at hl 2 rfl) ?_
        refine t_gk hx hb hts hown hK hB mh0 th0 fq_12_0 hbt mw_5_216 dX12_numberHere_61 ?_
        refine lv_aload_n hx hb dX12_numberHere_64 rfl (lv_at hl 2 rfl) ?_
        refine t_gv hx hb hts hown hK hB mh0 th0 fi_12_8 rfl mw_5_224 dX12_numberHere_65 ?_
        refine t_ab hx hb hK hB mbt tbt ai_61 (fun _ => rfl) (i_in (by omega) (by omega)) dX12_numberHere_68 (fun x_56 ex_56 lx_56 ux_56 => ?_)
        have cx_56 := congrArg Int32.toInt ex_56
        refine lv_iadd hx hb dX12_numberHere_69 ?_
        refine lv_topi (fun x_57 ex_57 => ?_)
        try have vx_57 := b_add (rfl : x_55.toInt = _) (rfl : x_56.toInt = _) ex_57 (by omega) (by omega)
        refine lv_bipush (v := 48) hx hb dX12_numberHere_70 (by decide) ?_
        refine lv_isub hx hb dX12_numberHere_72 ?_
        refine lv_topi (fun x_58 ex_58 => ?_)
        try have vx_58 := b_sub (rfl : x_57.toInt = _) (by decide : (48 : Int32).toInt = 48) ex_58 (by omega) (by omega)
        refine lv_istore (lv' := [(4, .int x_58), (3, .int (σ_3 h0 8)), (0, .ref h0), (1, .int p1), (2, .int p2)]) hx hb dX12_numberHere_73 hl (by decide) rfl (fun ls hl => ?_)
        refine lv_aload_n hx hb dX12_numberHere_75 rfl (lv_at hl 2 rfl) ?_
        refine lv_dup hx hb dX12_numberHere_76 rfl ?_
        refine t_gv hx hb hts hown hK hB mh0 th0 fi_12_8 rfl mw_5_224 dX12_numberHere_77 ?_
        refine lv_iconst (v := 1) hx hb dX12_numberHere_80 (by decide) ?_
        refine lv_iadd hx hb dX12_numberHere_81 ?_
        refine lv_topi (fun x_59 ex_59 => ?_)
        have vx_59 := b_add (rfl : (σ_19 h0 8).toInt = _) (by decide : (1 : Int32).toInt = 1) ex_59 (by omega) (by omega)
        refine t_pi hx hb hts hown hK hLA hB hS mh0 th0 fi_12_8 rfl rfl rfl (by first | omega | (subst_vars; omega)) (by first | omega | (subst_vars; omega)) (Or.inl (by decide)) mw_5_224 dX12_numberHere_82 (fun H locs σ_60 eσ_60 hB hS => ?_)
        have k_61 : σ_60 h0 8 = x_59 := by rw [eσ_60]; exact up2_same _ _ _ _
        refine lv_goto (tgt := 34) hx hb dX12_numberHere_85 (by decide) ?_
        have k_62 : σ_60 h0 1 = (σ h0 1) := by rw [eσ_60, up2_nej _ _ (by decide)]; exact k_22
        exact ih_21 ⟨x_58, σ_60, ρ_29⟩ _ _ _ ⟨k_62, (by rw [k_61]; omega), (by rw [k_61]; omega), hB, hS, lv_sub hl [0, 1, 2, 3, 4] rfl⟩ (by show (400 - (σ_60 h0 8).toInt).toNat < (400 - (σ_19 h0 8).toInt).toNat; rw [k_61]; omega)
  · skip
    have uc_14 := i_eq (n := 0) (by decide) c_14
    refine lv_aload_n hx hb dX12_numberHere_16 rfl (lv_at hl 0 rfl) ?_
    refine lv_iconst (v := 0) hx hb dX12_numberHere_17 (by decide) ?_
    refine lv_aload_n hx hb dX12_numberHere_18 rfl (lv_at hl 0 rfl) ?_
    refine t_gv hx hb hts hown hK hB mh0 th0 fi_12_8 rfl mw_5_224 dX12_numberHere_19 ?_
    refine t_ci (va_runV (As := [.int 0, .int (σ_3 h0 8)]) (rest := []) ⟨hx, hb, hml, hown, hts⟩ (cy_X12_fails l D cA L T r hG hLA.1 σ_3 ρ_12 hB.2.1 _ h0 mh0 th0 0 ((σ_3 h0 8)) (by first | omega | decide) (by first | omega | decide) (by first | omega | decide) (by first | omega | decide)) (cV hts mv_X12_fails mw_6_157 rfl rfl ⟨Nat.le_of_ble_eq_true rfl, Nat.le_of_ble_eq_true rfl⟩) (pV hB.1 hK hN mh0 th0 (show shp cA 12 _ _ _ = .inr (12, Fs12 _ _ _) from rfl) rfl) rfl rfl hl.1 rfl (lv_room (Nat.le_of_ble_eq_true rfl)) dX12_numberHere_22 ⟨Nat.le_of_ble_eq_true rfl, Nat.le_of_ble_eq_true rfl⟩) hLA hA hB hS (by decide) (fun x_65 σ_63 ρ_64 H locs hB fσ_63 pσ_63 hS => ?_)
    subst pσ_63
    have k_66 : σ_63 h0 8 = (σ_3 h0 8) := (FR.at fσ_63 th0 (by decide)).trans rfl
    exact W.zret (v := 0) hx hb hr rfl (fun t ht hW => ⟨⟨0, (σ_63, ρ_64), rfl, ⟨hB.2.1, hB.2.2, ⟨(show 0 ≤ (0 : Int32).toInt ∧ (0 : Int32).toInt ≤ 1 from ⟨by decide, by decide⟩), (show (σ h0 8).toInt ≤ (σ_63 h0 8).toInt from (by rw [k_66]; omega)), (show (0 : Int32).toInt = 1 → p1.toInt ≤ (σ_63 h0 10).toInt ∧ (σ_63 h0 10).toInt ≤ p2.toInt from (fun h => absurd h (by decide))), (show (0 : Int32).toInt = 1 → (σ h0 8).toInt + 1 ≤ (σ_63 h0 8).toInt from (fun h => absurd h (by decide)))⟩⟩, (show TP D cA L T r σ_63 ρ_64 t.heap from by rw [ht]; exact hB.1)⟩, hS.F ht⟩) hS.2.2 dX12_numberHere_25
set_option maxHeartbeats 4000000 in
set_option maxRecDepth 100000 in
theorem cz_X12_wordHere (l : Launch) (D : va_G) (cA : Nat → ClassId) (L : List Nat) (T : Nat → Nat) (r : Rg) (hG : GR L T r) (hL : L.Nodup) (σ : Sg) (ρ : Lg) (hW : WT L ry T σ) (sz : Nat) (h0 : Nat) (mh0 : h0 ∈ L) (th0 : T h0 = 12) (bt : Nat) (hbt : r h0 0 = some bt) (mbt : bt ∈ L) (tbt : T bt = 61) : Met l yX12_wordHere (.code yX12_wordHere cX12_wordHere 1 (some .int) :: wsA) ({ frames := 2, cells := 0, slots := 0, locals := 46 }) (PR D cA L T r σ ρ sz [.ref h0]) (QI D cA L T r ry [(12, 8)] σ sz (fun x σ1 => ((-1) ≤ x.toInt ∧ x.toInt ≤ 9) ∧ ((σ h0 8).toInt ≤ (σ1 h0 8).toInt) ∧ (0 ≤ x.toInt → ((σ1 h0 8).toInt < (σ1 h0 1).toInt ∧ 97 ≤ (σ1 bt (σ1 h0 8).toNatClampNeg).toInt ∧ (σ1 bt (σ1 h0 8).toNatClampNeg).toInt ≤ 122)))) 0 0 (dm L sz) := by
  refine Met.ofW (cc := cX12_wordHere) (maxL := 1) (ret := (some .int)) (by decide) rfl ?_
  intro p e s m args below meth c s₁ B hml hv
  obtain ⟨rfl, hsz, hP, hK, hN⟩ := hv
  have hx := B.exec
  have hb := B.bytes
  have hr := B.returns
  have hts : ∀ w ∈ wsA, w.before _ s = true := fun w h => atoms_spec (ws := .code yX12_wordHere cX12_wordHere 1 (some .int) :: wsA) B.pre w (List.mem_cons_of_mem _ h)
  have hown : s.vm.findClass RX12 = some m.cls := findClass_of_methodNamed B.named
  subst hsz
  have hLA : LA (dm L s.heap.size) L := ⟨hL, fun a h => Or.inl h⟩
  have hA : ∀ q : Nat, s.heap.size ≤ q → dm L s.heap.size q := fun q h => Or.inr h
  have hS : va_S (dm L s.heap.size) s.heap s.heap [] := va_S.rf
  have hB : TS D cA L T r ry [(12, 8)] σ σ ρ s.heap := ⟨hP, hW, FR.rf⟩
  have hl := lv_entry ([.ref h0]) (n := 1) (Nat.le_of_ble_eq_true rfl)
  rw [lg_entry_eq]
  generalize (lg_sl ([.ref h0]) ++ List.replicate (1 - (lg_sl ([.ref h0])).length) Slot.unset).toArray = ls at hl ⊢
  have hl : lv_has ls 1 [(0, .ref h0)] := hl
  have w_1 : 0 ≤ (σ h0 8).toInt ∧ (σ h0 8).toInt ≤ 400 := by have z := hB.2.1 h0 mh0 8; rw [th0] at z; exact z
  have w_2 : 0 ≤ (σ h0 1).toInt ∧ (σ h0 1).toInt ≤ 400 := by have z := hB.2.1 h0 mh0 1; rw [th0] at z; exact z
  refine lv_aload_n hx hb dX12_wordHere_0 rfl (lv_at hl 0 rfl) ?_
  refine lv_ldc2 (v := 1650814564) hx hb hown (hts _ mw_6_152) dX12_wordHere_1 ?_
  refine t_ci (va_runV (As := [.long 1650814564]) (rest := []) ⟨hx, hb, hml, hown, hts⟩ (cz_X12_isWord l D cA L T r hG hLA.1 σ ρ hB.2.1 _ h0 mh0 th0 1650814564 bt hbt mbt tbt) (cV hts mv_X12_isWord mw_6_143 rfl rfl ⟨Nat.le_of_ble_eq_true rfl, Nat.le_of_ble_eq_true rfl⟩) (pV hB.1 hK hN mh0 th0 (show shp cA 12 _ _ _ = .inr (12, Fs12 _ _ _) from rfl) rfl) rfl rfl hl.1 rfl (lv_room (Nat.le_of_ble_eq_true rfl)) dX12_wordHere_4 ⟨Nat.le_of_ble_eq_true rfl, Nat.le_of_ble_eq_true rfl⟩) hLA hA hB hS (by decide) (fun x_5 σ_3 ρ_4 H locs hB fσ_3 pσ_3 hS => ?_)
  obtain ⟨g_6, g_7, g_8, g_9⟩ := pσ_3
  have w_10 : 0 ≤ (σ_3 h0 8).toInt ∧ (σ_3 h0 8).toInt ≤ 400 := by have z := hB.2.1 h0 mh0 8; rw [th0] at z; exact z
  obtain ⟨lx_5, ux_5⟩ := g_6
  refine lv_if_eq (tgt := 12) hx hb dX12_wordHere_7 (by decide) (fun c_11 => ?_) (fun c_11 => ?_)
  · skip
    have uc_11 := i_eq (n := 0) (by decide) c_11
    refine lv_aload_n hx hb dX12_wordHere_12 rfl (lv_at hl 0 rfl) ?_
    refine lv_ldc2 (v := 439855772532) hx hb hown (hts _ mw_7_1) dX12_wordHere_13 ?_
    refine t_ci (va_runV (As := [.long 439855772532]) (rest := []) ⟨hx, hb, hml, hown, hts⟩ (cz_X12_isWord l D cA L T r hG hLA.1 σ_3 ρ_4 hB.2.1 _ h0 mh0 th0 439855772532 bt hbt mbt tbt) (cV hts mv_X12_isWord mw_6_143 rfl rfl ⟨Nat.le_of_ble_eq_true rfl, Nat.le_of_ble_eq_true rfl⟩) (pV hB.1 hK hN mh0 th0 (show shp cA 12 _ _ _ = .inr (12, Fs12 _ _ _) from rfl) rfl) rfl rfl hl.1 rfl (lv_room (Nat.le_of_ble_eq_true rfl)) dX12_wordHere_16 ⟨Nat.le_of_ble_eq_true rfl, Nat.le_of_ble_eq_true rfl⟩) hLA hA hB hS (by decide) (fun x_14 σ_12 ρ_13 H locs hB fσ_12 pσ_12 hS => ?_)
    obtain ⟨g_15, g_16, g_17, g_18⟩ := pσ_12
    have w_19 : 0 ≤ (σ_12 h0 8).toInt ∧ (σ_12 h0 8).toInt ≤ 400 := by have z := hB.2.1 h0 mh0 8; rw [th0] at z; exact z
    obtain ⟨lx_14, ux_14⟩ := g_15
    refine lv_if_eq (tgt := 24) hx hb dX12_wordHere_19 (by decide) (fun c_20 => ?_) (fun c_20 => ?_)
    · skip
      have uc_20 := i_eq (n := 0) (by decide) c_20
      refine lv_aload_n hx hb dX12_wordHere_24 rfl (lv_at hl 0 rfl) ?_
      refine lv_ldc2 (v := 126879297138276) hx hb hown (hts _ mw_7_2) dX12_wordHere_25 ?_
      refine t_ci (va_runV (As := [.long 126879297138276]) (rest := []) ⟨hx, hb, hml, hown, hts⟩ (cz_X12_isWord l D cA L T r hG hLA.1 σ_12 ρ_13 hB.2.1 _ h0 mh0 th0 126879297138276 bt hbt mbt tbt) (cV hts mv_X12_isWord mw_6_143 rfl rfl ⟨Nat.le_of_ble_eq_true rfl, Nat.le_of_ble_eq_true rfl⟩) (pV hB.1 hK hN mh0 th0 (show shp cA 12 _ _ _ = .inr (12, Fs12 _ _ _) from rfl) rfl) rfl rfl hl.1 rfl (lv_room (Nat.le_of_ble_eq_true rfl)) dX12_wordHere_28 ⟨Nat.le_of_ble_eq_true rfl, Nat.le_of_ble_eq_true rfl⟩) hLA hA hB hS (by decide) (fun x_23 σ_21 ρ_22 H locs hB fσ_21 pσ_21 hS => ?_)
      obtain ⟨g_24, g_25, g_26, g_27⟩ := pσ_21
      have w_28 : 0 ≤ (σ_21 h0 8).toInt ∧ (σ_21 h0 8).toInt ≤ 400 := by have z := hB.2.1 h0 mh0 8; rw [th0] at z; exact z
      obtain ⟨lx_23, ux_23⟩ := g_24
      refine lv_if_eq (tgt := 36) hx hb dX12_wordHere_31 (by decide) (fun c_29 => ?_) (fun c_29 => ?_)
      · skip
        have uc_29 := i_eq (n := 0) (by decide) c_29
        refine lv_aload_n hx hb dX12_wordHere_36 rfl (lv_at hl 0 rfl) ?_
        refine lv_ldc2 (v := 1634954099) hx hb hown (hts _ mw_7_3) dX12_wordHere_37 ?_
        refine t_ci (va_runV (As := [.long 1634954099]) (rest := []) ⟨hx, hb, hml, hown, hts⟩ (cz_X12_isWord l D cA L T r hG hLA.1 σ_21 ρ_22 hB.2.1 _ h0 mh0 th0 1634954099 bt hbt mbt tbt) (cV hts mv_X12_isWord mw_6_143 rfl rfl ⟨Nat.le_of_ble_eq_true rfl, Nat.le_of_ble_eq_true rfl⟩) (pV hB.1 hK hN mh0 th0 (show shp cA 12 _ _ _ = .inr (12, Fs12 _ _ _) from rfl) rfl) rfl rfl hl.1 rfl (lv_room (Nat.le_of_ble_eq_true rfl)) dX12_wordHere_40 ⟨Nat.le_of_ble_eq_true rfl, Nat.le_of_ble_eq_true rfl⟩) hLA hA hB hS (by decide) (fun x_32 σ_30 ρ_31 H locs hB fσ_30 pσ_30 hS => ?_)
        obtain ⟨g_33, g_34, g_35, g_36⟩ := pσ_30
        have w_37 : 0 ≤ (σ_30 h0 8).toInt ∧ (σ_30 h0 8).toInt ≤ 400 := by have z := hB.2.1 h0 mh0 8; rw [th0] at z; exact z
        obtain ⟨lx_32, ux_32⟩ := g_33
        refine lv_if_eq (tgt := 48) hx hb dX12_wordHere_43 (by decide) (fun c_38 => ?_) (fun c_38 => ?_)
        · skip
          have uc_38 := i_eq (n := 0) (by decide) c_38
          refine lv_aload_n hx hb dX12_wordHere_48 rfl (lv_at hl 0 rfl) ?_
          refine lv_ldc2 (v := 474214787188) hx hb hown (hts _ mw_7_4) dX12_wordHere_49 ?_
          refine t_ci (va_runV (As := [.long 474214787188]) (rest := []) ⟨hx, hb, hml, hown, hts⟩ (cz_X12_isWord l D cA L T r hG hLA.1 σ_30 ρ_31 hB.2.1 _ h0 mh0 th0 474214787188 bt hbt mbt tbt) (cV hts mv_X12_isWord mw_6_143 rfl rfl ⟨Nat.le_of_ble_eq_true rfl, Nat.le_of_ble_eq_true rfl⟩) (pV hB.1 hK hN mh0 th0 (show shp cA 12 _ _ _ = .inr (12, Fs12 _ _ _) from rfl) rfl) rfl rfl hl.1 rfl (lv_room (Nat.le_of_ble_eq_true rfl)) dX12_wordHere_52 ⟨Nat.le_of_ble_eq_true rfl, Nat.le_of_ble_eq_true rfl⟩) hLA hA hB hS (by decide) (fun x_41 σ_39 ρ_40 H locs hB fσ_39 pσ_39 hS => ?_)
          obtain ⟨g_42, g_43, g_44, g_45⟩ := pσ_39
          have w_46 : 0 ≤ (σ_39 h0 8).toInt ∧ (σ_39 h0 8).toInt ≤ 400 := by have z := hB.2.1 h0 mh0 8; rw [th0] at z; exact z
          obtain ⟨lx_41, ux_41⟩ := g_42
          refine lv_if_eq (tgt := 60) hx hb dX12_wordHere_55 (by decide) (fun c_47 => ?_) (fun c_47 => ?_)
          · skip
            have uc_47 := i_eq (n := 0) (by decide) c_47
            refine lv_aload_n hx hb dX12_wordHere_60 rfl (lv_at hl 0 rfl) ?_
            refine lv_ldc2 (v := 1869505907) hx hb hown (hts _ mw_7_5) dX12_wordHere_61 ?_
            refine t_ci (va_runV (As := [.long 1869505907]) (rest := []) ⟨hx, hb, hml, hown, hts⟩ (cz_X12_isWord l D cA L T r hG hLA.1 σ_39 ρ_40 hB.2.1 _ h0 mh0 th0 1869505907 bt hbt mbt tbt) (cV hts mv_X12_isWord mw_6_143 rfl rfl ⟨Nat.le_of_ble_eq_true rfl, Nat.le_of_ble_eq_true rfl⟩) (pV hB.1 hK hN mh0 th0 (show shp cA 12 _ _ _ = .inr (12, Fs12 _ _ _) from rfl) rfl) rfl rfl hl.1 rfl (lv_room (Nat.le_of_ble_eq_true rfl)) dX12_wordHere_64 ⟨Nat.le_of_ble_eq_true rfl, Nat.le_of_ble_eq_true rfl⟩) hLA hA hB hS (by decide) (fun x_50 σ_48 ρ_49 H locs hB fσ_48 pσ_48 hS => ?_)
            obtain ⟨g_51, g_52, g_53, g_54⟩ := pσ_48
            have w_55 : 0 ≤ (σ_48 h0 8).toInt ∧ (σ_48 h0 8).toInt ≤ 400 := by have z := hB.2.1 h0 mh0 8; rw [th0] at z; exact z
            obtain ⟨lx_50, ux_50⟩ := g_51
            refine lv_if_eq (tgt := 72) hx hb dX12_wordHere_67 (by decide) (fun c_56 => ?_) (fun c_56 => ?_)
            · skip
              have uc_56 := i_eq (n := 0) (by decide) c_56
              refine lv_aload_n hx hb dX12_wordHere_72 rfl (lv_at hl 0 rfl) ?_
              refine lv_ldc2 (v := 1953984371) hx hb hown (hts _ mw_7_6) dX12_wordHere_73 ?_
              refine t_ci (va_runV (As := [.long 1953984371]) (rest := []) ⟨hx, hb, hml, hown, hts⟩ (cz_X12_isWord l D cA L T r hG hLA.1 σ_48 ρ_49 hB.2.1 _ h0 mh0 th0 1953984371 bt hbt mbt tbt) (cV hts mv_X12_isWord mw_6_143 rfl rfl ⟨Nat.le_of_ble_eq_true rfl, Nat.le_of_ble_eq_true rfl⟩) (pV hB.1 hK hN mh0 th0 (show shp cA 12 _ _ _ = .inr (12, Fs12 _ _ _) from rfl) rfl) rfl rfl hl.1 rfl (lv_room (Nat.le_of_ble_eq_true rfl)) dX12_wordHere_76 ⟨Nat.le_of_ble_eq_true rfl, Nat.le_of_ble_eq_true rfl⟩) hLA hA hB hS (by decide) (fun x_59 σ_57 ρ_58 H locs hB fσ_57 pσ_57 hS => ?_)
              obtain ⟨g_60, g_61, g_62, g_63⟩ := pσ_57
              have w_64 : 0 ≤ (σ_57 h0 8).toInt ∧ (σ_57 h0 8).toInt ≤ 400 := by have z := hB.2.1 h0 mh0 8; rw [th0] at z; exact z
              obtain ⟨lx_59, ux_59⟩ := g_60
              refine lv_if_eq (tgt := 85) hx hb dX12_wordHere_79 (by decide) (fun c_65 => ?_) (fun c_65 => ?_)
              · skip
                have uc_65 := i_eq (n := 0) (by decide) c_65
                refine lv_aload_n hx hb dX12_wordHere_85 rfl (lv_at hl 0 rfl) ?_
                refine lv_ldc2 (v := 1751474544) hx hb hown (hts _ mw_6_155) dX12_wordHere_86 ?_
                refine t_ci (va_runV (As := [.long 1751474544]) (rest := []) ⟨hx, hb, hml, hown, hts⟩ (cz_X12_isWord l D cA L T r hG hLA.1 σ_57 ρ_58 hB.2.1 _ h0 mh0 th0 1751474544 bt hbt mbt tbt) (cV hts mv_X12_isWord mw_6_143 rfl rfl ⟨Nat.le_of_ble_eq_true rfl, Nat.le_of_ble_eq_true rfl⟩) (pV hB.1 hK hN mh0 th0 (show shp cA 12 _ _ _ = .inr (12, Fs12 _ _ _) from rfl) rfl) rfl rfl hl.1 rfl (lv_room (Nat.le_of_ble_eq_true rfl)) dX12_wordHere_89 ⟨Nat.le_of_ble_eq_true rfl, Nat.le_of_ble_eq_true rfl⟩) hLA hA hB hS (by decide) (fun x_68 σ_66 ρ_67 H locs hB fσ_66 pσ_66 hS => ?_)
                obtain ⟨g_69, g_70, g_71, g_72⟩ := pσ_66
                have w_73 : 0 ≤ (σ_66 h0 8).toInt ∧ (σ_66 h0 8).toInt ≤ 400 := by have z := hB.2.1 h0 mh0 8; rw [th0] at z; exact z
                obtain ⟨lx_68, ux_68⟩ := g_69
                refine lv_if_eq (tgt := 98) hx hb dX12_wordHere_92 (by decide) (fun c_74 => ?_) (fun c_74 => ?_)
                · skip
                  have uc_74 := i_eq (n := 0) (by decide) c_74
                  refine lv_aload_n hx hb dX12_wordHere_98 rfl (lv_at hl 0 rfl) ?_
                  refine lv_ldc2 (v := 123563851081060) hx hb hown (hts _ mw_7_7) dX12_wordHere_99 ?_
                  refine t_ci (va_runV (As := [.long 123563851081060]) (rest := []) ⟨hx, hb, hml, hown, hts⟩ (cz_X12_isWord l D cA L T r hG hLA.1 σ_66 ρ_67 hB.2.1 _ h0 mh0 th0 123563851081060 bt hbt mbt tbt) (cV hts mv_X12_isWord mw_6_143 rfl rfl ⟨Nat.le_of_ble_eq_true rfl, Nat.le_of_ble_eq_true rfl⟩) (pV hB.1 hK hN mh0 th0 (show shp cA 12 _ _ _ = .inr (12, Fs12 _ _ _) from rfl) rfl) rfl rfl hl.1 rfl (lv_room (Nat.le_of_ble_eq_true rfl)) dX12_wordHere_102 ⟨Nat.le_of_ble_eq_true rfl, Nat.le_of_ble_eq_true rfl⟩) hLA hA hB hS (by decide) (fun x_77 σ_75 ρ_76 H locs hB fσ_75 pσ_75 hS => ?_)
                  obtain ⟨g_78, g_79, g_80, g_81⟩ := pσ_75
                  have w_82 : 0 ≤ (σ_75 h0 8).toInt ∧ (σ_75 h0 8).toInt ≤ 400 := by have z := hB.2.1 h0 mh0 8; rw [th0] at z; exact z
                  obtain ⟨lx_77, ux_77⟩ := g_78
                  refine lv_if_eq (tgt := 113) hx hb dX12_wordHere_105 (by decide) (fun c_83 => ?_) (fun c_83 => ?_)
                  · skip
                    have uc_83 := i_eq (n := 0) (by decide) c_83
                    refine lv_aload_n hx hb dX12_wordHere_113 rfl (lv_at hl 0 rfl) ?_
                    refine lv_ldc2 (v := 1751478885) hx hb hown (hts _ mw_7_8) dX12_wordHere_114 ?_
                    refine t_ci (va_runV (As := [.long 1751478885]) (rest := []) ⟨hx, hb, hml, hown, hts⟩ (cz_X12_isWord l D cA L T r hG hLA.1 σ_75 ρ_76 hB.2.1 _ h0 mh0 th0 1751478885 bt hbt mbt tbt) (cV hts mv_X12_isWord mw_6_143 rfl rfl ⟨Nat.le_of_ble_eq_true rfl, Nat.le_of_ble_eq_true rfl⟩) (pV hB.1 hK hN mh0 th0 (show shp cA 12 _ _ _ = .inr (12, Fs12 _ _ _) from rfl) rfl) rfl rfl hl.1 rfl (lv_room (Nat.le_of_ble_eq_true rfl)) dX12_wordHere_117 ⟨Nat.le_of_ble_eq_true rfl, Nat.le_of_ble_eq_true rfl⟩) hLA hA hB hS (by decide) (fun x_86 σ_84 ρ_85 H locs hB fσ_84 pσ_84 hS => ?_)
                    obtain ⟨g_87, g_88, g_89, g_90⟩ := pσ_84
                    have w_91 : 0 ≤ (σ_84 h0 8).toInt ∧ (σ_84 h0 8).toInt ≤ 400 := by have z := hB.2.1 h0 mh0 8; rw [th0] at z; exact z
                    obtain ⟨lx_86, ux_86⟩ := g_87
                    refine lv_if_eq (tgt := 128) hx hb dX12_wordHere_120 (by decide) (fun c_92 => ?_) (fun c_92 => ?_)
                    · skip
                      have uc_92 := i_eq (n := 0) (by decide) c_92
                      refine lv_iconst (v := (-1)) hx hb dX12_wordHere_128 (by decide) ?_
                      exact W.iret (v := (-1)) hx hb hr (fun t ht hW => ⟨⟨(-1), (σ_84, ρ_85), rfl, ⟨hB.2.1, hB.2.2, ⟨(show (-1) ≤ ((-1) : Int32).toInt ∧ ((-1) : Int32).toInt ≤ 9 from ⟨by decide, by decide⟩), (show (σ h0 8).toInt ≤ (σ_84 h0 8).toInt from (by omega)), (show 0 ≤ ((-1) : Int32).toInt → ((σ_84 h0 8).toInt < (σ_84 h0 1).toInt ∧ 97 ≤ (σ_84 bt (σ_84 h0 8).toNatClampNeg).toInt ∧ (σ_84 bt (σ_84 h0 8).toNatClampNeg).toInt ≤ 122) from (fun h => absurd h (by decide)))⟩⟩, (show TP D cA L T r σ_84 ρ_85 t.heap from by rw [ht]; exact hB.1)⟩, hS.F ht⟩) hS.2.2 dX12_wordHere_129
                    · skip
                      have uc_92 := i_ne (n := 0) (by decide) c_92
                      refine lv_bipush (v := 9) hx hb dX12_wordHere_123 (by decide) ?_
                      refine lv_goto (tgt := 129) hx hb dX12_wordHere_125 (by decide) ?_
                      exact W.iret (v := 9) hx hb hr (fun t ht hW => ⟨⟨9, (σ_84, ρ_85), rfl, ⟨hB.2.1, hB.2.2, ⟨(show (-1) ≤ (9 : Int32).toInt ∧ (9 : Int32).toInt ≤ 9 from ⟨by decide, by decide⟩), (show (σ h0 8).toInt ≤ (σ_84 h0 8).toInt from (by omega)), (show 0 ≤ (9 : Int32).toInt → ((σ_84 h0 8).toInt < (σ_84 h0 1).toInt ∧ 97 ≤ (σ_84 bt (σ_84 h0 8).toNatClampNeg).toInt ∧ (σ_84 bt (σ_84 h0 8).toNatClampNeg).toInt ≤ 122) from (fun h => by omega))⟩⟩, (show TP D cA L T r σ_84 ρ_85 t.heap from by rw [ht]; exact hB.1)⟩, hS.F ht⟩) hS.2.2 dX12_wordHere_129
                  · skip
                    have uc_83 := i_ne (n := 0) (by decide) c_83
                    refine lv_bipush (v := 8) hx hb dX12_wordHere_108 (by decide) ?_
                    refine lv_goto (tgt := 129) hx hb dX12_wordHere_110 (by decide) ?_
                    exact W.iret (v := 8) hx hb hr (fun t ht hW => ⟨⟨8, (σ_75, ρ_76), rfl, ⟨hB.2.1, hB.2.2, ⟨(show (-1) ≤ (8 : Int32).toInt ∧ (8 : Int32).toInt ≤ 9 from ⟨by decide, by decide⟩), (show (σ h0 8).toInt ≤ (σ_75 h0 8).toInt from (by omega)), (show 0 ≤ (8 : Int32).toInt → ((σ_75 h0 8).toInt < (σ_75 h0 1).toInt ∧ 97 ≤ (σ_75 bt (σ_75 h0 8).toNatClampNeg).toInt ∧ (σ_75 bt (σ_75 h0 8).toNatClampNeg).toInt ≤ 122) from (fun h => by omega))⟩⟩, (show TP D cA L T r σ_75 ρ_76 t.heap from by rw [ht]; exact hB.1)⟩, hS.F ht⟩) hS.2.2 dX12_wordHere_129
                · skip
                  have uc_74 := i_ne (n := 0) (by decide) c_74
                  refine lv_bipush (v := 7) hx hb dX12_wordHere_95 (by decide) ?_
                  exact W.iret (v := 7) hx hb hr (fun t ht hW => ⟨⟨7, (σ_66, ρ_67), rfl, ⟨hB.2.1, hB.2.2, ⟨(show (-1) ≤ (7 : Int32).toInt ∧ (7 : Int32).toInt ≤ 9 from ⟨by decide, by decide⟩), (show (σ h0 8).toInt ≤ (σ_66 h0 8).toInt from (by omega)), (show 0 ≤ (7 : Int32).toInt → ((σ_66 h0 8).toInt < (σ_66 h0 1).toInt ∧ 97 ≤ (σ_66 bt (σ_66 h0 8).toNatClampNeg).toInt ∧ (σ_66 bt (σ_66 h0 8).toNatClampNeg).toInt ≤ 122) from (fun h => by omega))⟩⟩, (show TP D cA L T r σ_66 ρ_67 t.heap from by rw [ht]; exact hB.1)⟩, hS.F ht⟩) hS.2.2 dX12_wordHere_97
              · skip
                have uc_65 := i_ne (n := 0) (by decide) c_65
                refine lv_bipush (v := 6) hx hb dX12_wordHere_82 (by decide) ?_
                exact W.iret (v := 6) hx hb hr (fun t ht hW => ⟨⟨6, (σ_57, ρ_58), rfl, ⟨hB.2.1, hB.2.2, ⟨(show (-1) ≤ (6 : Int32).toInt ∧ (6 : Int32).toInt ≤ 9 from ⟨by decide, by decide⟩), (show (σ h0 8).toInt ≤ (σ_57 h0 8).toInt from (by omega)), (show 0 ≤ (6 : Int32).toInt → ((σ_57 h0 8).toInt < (σ_57 h0 1).toInt ∧ 97 ≤ (σ_57 bt (σ_57 h0 8).toNatClampNeg).toInt ∧ (σ_57 bt (σ_57 h0 8).toNatClampNeg).toInt ≤ 122) from (fun h => by omega))⟩⟩, (show TP D cA L T r σ_57 ρ_58 t.heap from by rw [ht]; exact hB.1)⟩, hS.F ht⟩) hS.2.2 dX12_wordHere_84
            · skip
              have uc_56 := i_ne (n := 0) (by decide) c_56
              refine lv_iconst (v := 5) hx hb dX12_wordHere_70 (by decide) ?_
              exact W.iret (v := 5) hx hb hr (fun t ht hW => ⟨⟨5, (σ_48, ρ_49), rfl, ⟨hB.2.1, hB.2.2, ⟨(show (-1) ≤ (5 : Int32).toInt ∧ (5 : Int32).toInt ≤ 9 from ⟨by decide, by decide⟩), (show (σ h0 8).toInt ≤ (σ_48 h0 8).toInt from (by omega)), (show 0 ≤ (5 : Int32).toInt → ((σ_48 h0 8).toInt < (σ_48 h0 1).toInt ∧ 97 ≤ (σ_48 bt (σ_48 h0 8).toNatClampNeg).toInt ∧ (σ_48 bt (σ_48 h0 8).toNatClampNeg).toInt ≤ 122) from (fun h => by omega))⟩⟩, (show TP D cA L T r σ_48 ρ_49 t.heap from by rw [ht]; exact hB.1)⟩, hS.F ht⟩) hS.2.2 dX12_wordHere_71
          · skip
            have uc_47 := i_ne (n := 0) (by decide) c_47
            refine lv_iconst (v := 4) hx hb dX12_wordHere_58 (by decide) ?_
            exact W.iret (v := 4) hx hb hr (fun t ht hW => ⟨⟨4, (σ_39, ρ_40), rfl, ⟨hB.2.1, hB.2.2, ⟨(show (-1) ≤ (4 : Int32).toInt ∧ (4 : Int32).toInt ≤ 9 from ⟨by decide, by decide⟩), (show (σ h0 8).toInt ≤ (σ_39 h0 8).toInt from (by omega)), (show 0 ≤ (4 : Int32).toInt → ((σ_39 h0 8).toInt < (σ_39 h0 1).toInt ∧ 97 ≤ (σ_39 bt (σ_39 h0 8).toNatClampNeg).toInt ∧ (σ_39 bt (σ_39 h0 8).toNatClampNeg).toInt ≤ 122) from (fun h => by omega))⟩⟩, (show TP D cA L T r σ_39 ρ_40 t.heap from by rw [ht]; exact hB.1)⟩, hS.F ht⟩) hS.2.2 dX12_wordHere_59
        · skip
          have uc_38 := i_ne (n := 0) (by decide) c_38
          refine lv_iconst (v := 3) hx hb dX12_wordHere_46 (by decide) ?_
          exact W.iret (v := 3) hx hb hr (fun t ht hW => ⟨⟨3, (σ_30, ρ_31), rfl, ⟨hB.2.1, hB.2.2, ⟨(show (-1) ≤ (3 : Int32).toInt ∧ (3 : Int32).toInt ≤ 9 from ⟨by decide, by decide⟩), (show (σ h0 8).toInt ≤ (σ_30 h0 8).toInt from (by omega)), (show 0 ≤ (3 : Int32).toInt → ((σ_30 h0 8).toInt < (σ_30 h0 1).toInt ∧ 97 ≤ (σ_30 bt (σ_30 h0 8).toNatClampNeg).toInt ∧ (σ_30 bt (σ_30 h0 8).toNatClampNeg).toInt ≤ 122) from (fun h => by omega))⟩⟩, (show TP D cA L T r σ_30 ρ_31 t.heap from by rw [ht]; exact hB.1)⟩, hS.F ht⟩) hS.2.2 dX12_wordHere_47
      · skip
        have uc_29 := i_ne (n := 0) (by decide) c_29
        refine lv_iconst (v := 2) hx hb dX12_wordHere_34 (by decide) ?_
        exact W.iret (v := 2) hx hb hr (fun t ht hW => ⟨⟨2, (σ_21, ρ_22), rfl, ⟨hB.2.1, hB.2.2, ⟨(show (-1) ≤ (2 : Int32).toInt ∧ (2 : Int32).toInt ≤ 9 from ⟨by decide, by decide⟩), (show (σ h0 8).toInt ≤ (σ_21 h0 8).toInt from (by omega)), (show 0 ≤ (2 : Int32).toInt → ((σ_21 h0 8).toInt < (σ_21 h0 1).toInt ∧ 97 ≤ (σ_21 bt (σ_21 h0 8).toNatClampNeg).toInt ∧ (σ_21 bt (σ_21 h0 8).toNatClampNeg).toInt ≤ 122) from (fun h => by omega))⟩⟩, (show TP D cA L T r σ_21 ρ_22 t.heap from by rw [ht]; exact hB.1)⟩, hS.F ht⟩) hS.2.2 dX12_wordHere_35
    · skip
      have uc_20 := i_ne (n := 0) (by decide) c_20
      refine lv_iconst (v := 1) hx hb dX12_wordHere_22 (by decide) ?_
      exact W.iret (v := 1) hx hb hr (fun t ht hW => ⟨⟨1, (σ_12, ρ_13), rfl, ⟨hB.2.1, hB.2.2, ⟨(show (-1) ≤ (1 : Int32).toInt ∧ (1 : Int32).toInt ≤ 9 from ⟨by decide, by decide⟩), (show (σ h0 8).toInt ≤ (σ_12 h0 8).toInt from (by omega)), (show 0 ≤ (1 : Int32).toInt → ((σ_12 h0 8).toInt < (σ_12 h0 1).toInt ∧ 97 ≤ (σ_12 bt (σ_12 h0 8).toNatClampNeg).toInt ∧ (σ_12 bt (σ_12 h0 8).toNatClampNeg).toInt ≤ 122) from (fun h => by omega))⟩⟩, (show TP D cA L T r σ_12 ρ_13 t.heap from by rw [ht]; exact hB.1)⟩, hS.F ht⟩) hS.2.2 dX12_wordHere_23
  · skip
    have uc_11 := i_ne (n := 0) (by decide) c_11
    refine lv_iconst (v := 0) hx hb dX12_wordHere_10 (by decide) ?_
    exact W.iret (v := 0) hx hb hr (fun t ht hW => ⟨⟨0, (σ_3, ρ_4), rfl, ⟨hB.2.1, hB.2.2, ⟨(show (-1) ≤ (0 : Int32).toInt ∧ (0 : Int32).toInt ≤ 9 from ⟨by decide, by decide⟩), (show (σ h0 8).toInt ≤ (σ_3 h0 8).toInt from (by omega)), (show 0 ≤ (0 : Int32).toInt → ((σ_3 h0 8).toInt < (σ_3 h0 1).toInt ∧ 97 ≤ (σ_3 bt (σ_3 h0 8).toNatClampNeg).toInt ∧ (σ_3 bt (σ_3 h0 8).toNatClampNeg).toInt ≤ 122) from (fun h => by omega))⟩⟩, (show TP D cA L T r σ_3 ρ_4 t.heap from by rw [ht]; exact hB.1)⟩, hS.F ht⟩) hS.2.2 dX12_wordHere_11
set_option maxHeartbeats 4000000 in
set_option maxRecDepth 100000 in
theorem cz_X12_makes (l : Launch) (D : va_G) (cA : Nat → ClassId) (L : List Nat) (T : Nat → Nat) (r : Rg) (hG : GR L T r) (hL : L.Nodup) (σ : Sg) (ρ : Lg) (hW : WT L ry T σ) (sz : Nat) (h0 : Nat) (mh0 : h0 ∈ L) (th0 : T h0 = 12) (p1 : Int32) (w0 : 0 ≤ p1.toInt) (w1 : p1.toInt ≤ 400) : Met l yX12_makes (.code yX12_makes cX12_makes 2 (some .boolean) :: wsA) ({ frames := 1, cells := 0, slots := 0, locals := 22 }) (PR D cA L T r σ ρ sz [.ref h0, .int p1]) (QI D cA L T r ry [(12, 9), (12, 12)] σ sz (fun x σ1 => (0 ≤ x.toInt ∧ x.toInt ≤ 1) ∧ (x.toInt = 1 → (σ1 h0 12).toInt = (σ h0 12).toInt + 1))) 0 0 (dm L sz) := by
  refine Met.ofW (cc := cX12_makes) (maxL := 2) (ret := (some .boolean)) (by decide) rfl ?_
  intro p e s m args below meth c s₁ B hml hv
  obtain ⟨rfl, hsz, hP, hK, hN⟩ := hv
  have hx := B.exec
  have hb := B.bytes
  have hr := B.returns
  have hts : ∀ w ∈ wsA, w.before _ s = true := fun w h => atoms_spec (ws := .code yX12_makes cX12_makes 2 (some .boolean) :: wsA) B.pre w (List.mem_cons_of_mem _ h)
  have hown : s.vm.findClass RX12 = some m.cls := findClass_of_methodNamed B.named
  subst hsz
  have hLA : LA (dm L s.heap.size) L := ⟨hL, fun a h => Or.inl h⟩
  have hA : ∀ q : Nat, s.heap.size ≤ q → dm L s.heap.size q := fun q h => Or.inr h
  have hS : va_S (dm L s.heap.size) s.heap s.heap [] := va_S.rf
  have hB : TS D cA L T r ry [(12, 9), (12, 12)] σ σ ρ s.heap := ⟨hP, hW, FR.rf⟩
  have hl := lv_entry ([.ref h0, .int p1]) (n := 2) (Nat.le_of_ble_eq_true rfl)
  rw [lg_entry_eq]
  generalize (lg_sl ([.ref h0, .int p1]) ++ List.replicate (2 - (lg_sl ([.ref h0, .int p1])).length) Slot.unset).toArray = ls at hl ⊢
  have hl : lv_has ls 2 [(0, .ref h0), (1, .int p1)] := hl
  have w_1 : 0 ≤ (σ h0 12).toInt ∧ (σ h0 12).toInt ≤ 60 := by have z := hB.2.1 h0 mh0 12; rw [th0] at z; exact z
  refine lv_aload_n hx hb dX12_makes_0 rfl (lv_at hl 0 rfl) ?_
  refine t_gv hx hb hts hown hK hB mh0 th0 fi_12_12 rfl mw_5_228 dX12_makes_1 ?_
  refine lv_bipush (v := 60) hx hb dX12_makes_4 (by decide) ?_
  refine lv_icmp_ne (tgt := 16) hx hb dX12_makes_6 (by decide) (fun c_2 => ?_) (fun c_2 => ?_)
  · skip
    have uc_2 := i_ne (n := 60) (by decide) c_2
    refine lv_aload_n hx hb dX12_makes_16 rfl (lv_at hl 0 rfl) ?_
    refine lv_dup hx hb dX12_makes_17 rfl ?_
    refine t_gv hx hb hts hown hK hB mh0 th0 fi_12_12 rfl mw_5_228 dX12_makes_18 ?_
    refine lv_iconst (v := 1) hx hb dX12_makes_21 (by decide) ?_
    refine lv_iadd hx hb dX12_makes_22 ?_
    refine lv_topi (fun x_3 ex_3 => ?_)
    have vx_3 := b_add (rfl : (σ h0 12).toInt = _) (by decide : (1 : Int32).toInt = 1) ex_3 (by omega) (by omega)
    refine t_pi hx hb hts hown hK hLA hB hS mh0 th0 fi_12_12 rfl rfl rfl (by first | omega | (subst_vars; omega)) (by first | omega | (subst_vars; omega)) (Or.inl (by decide)) mw_5_228 dX12_makes_23 (fun H locs σ_4 eσ_4 hB hS => ?_)
    have k_5 : σ_4 h0 12 = x_3 := by rw [eσ_4]; exact up2_same _ _ _ _
    refine lv_iconst (v := 1) hx hb dX12_makes_26 (by decide) ?_
    exact W.zret (v := 1) hx hb hr rfl (fun t ht hW => ⟨⟨1, (σ_4, ρ), rfl, ⟨hB.2.1, hB.2.2, ⟨(show 0 ≤ (1 : Int32).toInt ∧ (1 : Int32).toInt ≤ 1 from ⟨by decide, by decide⟩), (show (1 : Int32).toInt = 1 → (σ_4 h0 12).toInt = (σ h0 12).toInt + 1 from (fun h => (by rw [k_5]; omega)))⟩⟩, (show TP D cA L T r σ_4 ρ t.heap from by rw [ht]; exact hB.1)⟩, hS.F ht⟩) hS.2.2 dX12_makes_27
  · skip
    have uc_2 := i_eq (n := 60) (by decide) c_2
    refine lv_aload_n hx hb dX12_makes_9 rfl (lv_at hl 0 rfl) ?_
    refine lv_iconst (v := 3) hx hb dX12_makes_10 (by decide) ?_
    refine lv_iload_n hx hb dX12_makes_11 rfl (lv_at hl 1 rfl) ?_
    refine t_ci (va_runV (As := [.int 3, .int p1]) (rest := []) ⟨hx, hb, hml, hown, hts⟩ (cy_X12_fails l D cA L T r hG hLA.1 σ ρ hB.2.1 _ h0 mh0 th0 3 p1 (by first | omega | decide) (by first | omega | decide) (by first | omega | decide) (by first | omega | decide)) (cV hts mv_X12_fails mw_6_157 rfl rfl ⟨Nat.le_of_ble_eq_true rfl, Nat.le_of_ble_eq_true rfl⟩) (pV hB.1 hK hN mh0 th0 (show shp cA 12 _ _ _ = .inr (12, Fs12 _ _ _) from rfl) rfl) rfl rfl hl.1 rfl (lv_room (Nat.le_of_ble_eq_true rfl)) dX12_makes_12 ⟨Nat.le_of_ble_eq_true rfl, Nat.le_of_ble_eq_true rfl⟩) hLA hA hB hS (by decide) (fun x_8 σ_6 ρ_7 H locs hB fσ_6 pσ_6 hS => ?_)
    subst pσ_6
    exact W.zret (v := 0) hx hb hr rfl (fun t ht hW => ⟨⟨0, (σ_6, ρ_7), rfl, ⟨hB.2.1, hB.2.2, ⟨(show 0 ≤ (0 : Int32).toInt ∧ (0 : Int32).toInt ≤ 1 from ⟨by decide, by decide⟩), (show (0 : Int32).toInt = 1 → (σ_6 h0 12).toInt = (σ h0 12).toInt + 1 from (fun h => absurd h (by decide)))⟩⟩, (show TP D cA L T r σ_6 ρ_7 t.heap from by rw [ht]; exact hB.1)⟩, hS.F ht⟩) hS.2.2 dX12_makes_15
