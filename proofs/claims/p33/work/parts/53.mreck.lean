theorem dpt_pre {f : Nat → Int32} {a : Nat} : ∀ {n m d : Nat}, dpt f a n = some d → m ≤ n → ∃ d' : Nat, dpt f a m = some d'
  | 0, m, d, h, hm => ⟨d, by rw [show m = 0 by omega]; exact h⟩
  | n + 1, m, d, h, hm => by
    by_cases e : m = n + 1
    · exact ⟨d, by rw [e]; exact h⟩
    · have h' : (dpt f a n).bind (stp (f (a + n))) = some d := h
      cases hq : dpt f a n with
      | none => rw [hq] at h'; exact absurd h' (by intro z; cases z)
      | some t => exact dpt_pre hq (by omega)
theorem dpt_nx {f : Nat → Int32} {a n k t d : Nat} (h : dpt f a n = some d) (hk : k < n) (ht : dpt f a k = some t) : ∃ d' : Nat, stp (f (a + k)) t = some d' ∧ dpt f a (k + 1) = some d' := by
  obtain ⟨d', h'⟩ := dpt_pre (m := k + 1) h hk
  have e : dpt f a (k + 1) = (dpt f a k).bind (stp (f (a + k))) := rfl
  rw [ht] at e
  exact ⟨d', e.symm.trans h', h'⟩
theorem stp_i0 {s x : Int32} {t d : Nat} (h : stp s t = some d) (e : x = s &&& 15) (h0 : x.toInt = 0) : t < 60 ∧ d = t + 1 := by
  have z : s &&& 15 = 0 := e ▸ i_is (by decide) h0
  unfold stp at h; rw [z, if_pos rfl] at h
  split at h
  · cases h; exact ⟨by assumption, rfl⟩
  · cases h
theorem stp_i1 {s x : Int32} {t d : Nat} (h : stp s t = some d) (e : x = s &&& 15) (h0 : x.toInt = 1) : t < 60 ∧ d = t + 1 ∧ 0 ≤ (s >>> 4).toInt ∧ (s >>> 4).toInt ≤ 9 := by
  have z : s &&& 15 = 1 := e ▸ i_is (by decide) h0
  unfold stp at h; rw [z, if_neg (by decide), if_pos rfl] at h
  split at h
  · rename_i q; cases h; exact ⟨q.1, rfl, q.2.1, q.2.2⟩
  · cases h
theorem stp_i11 {s x : Int32} {t d : Nat} (h : stp s t = some d) (e : x = s &&& 15) (h0 : x.toInt = 11) : 1 ≤ t ∧ d = t := by
  have z : s &&& 15 = 11 := e ▸ i_is (by decide) h0
  unfold stp at h; rw [z, if_neg (by decide), if_neg (by decide), if_pos rfl] at h
  split at h
  · cases h; exact ⟨by assumption, rfl⟩
  · cases h
theorem stp_ib {s x : Int32} {t d : Nat} (h : stp s t = some d) (e : x = s &&& 15) (h0 : x.toInt ≠ 0) (h1 : x.toInt ≠ 1) (h2 : x.toInt ≠ 11) : 2 ≤ t ∧ d = t - 1 := by
  subst e
  unfold stp at h
  rw [if_neg (fun z => h0 (by rw [z]; decide)), if_neg (fun z => h1 (by rw [z]; decide)), if_neg (fun z => h2 (by rw [z]; decide))] at h
  split at h
  · cases h; exact ⟨by assumption, rfl⟩
  · cases h
set_option maxHeartbeats 4000000 in
set_option maxRecDepth 100000 in
theorem cz_X12_push (l : Launch) (D : va_G) (cA : Nat → ClassId) (L : List Nat) (T : Nat → Nat) (r : Rg) (hG : GR L T r) (hL : L.Nodup) (σ : Sg) (ρ : Lg) (hW : WT L ry T σ) (sz : Nat) (h0 : Nat) (mh0 : h0 ∈ L) (th0 : T h0 = 12) (p1 : Int64) (w0 : (σ h0 18).toInt ≤ 63) : Met l yX12_push (.code yX12_push cX12_push 3 none :: wsA) ({ frames := 0, cells := 0, slots := 0, locals := 0 }) (PR D cA L T r σ ρ sz [.ref h0, .long p1]) (QV D cA L T r ry [(12, 18)] σ sz (fun σ1 => ((σ1 h0 18).toInt = (σ h0 18).toInt + 1))) 0 0 (dm L sz) := by
  refine Met.ofW (cc := cX12_push) (maxL := 3) (ret := none) (by decide) rfl ?_
  intro p e s m args below meth c s₁ B hml hv
  obtain ⟨rfl, hsz, hP, hK, hN⟩ := hv
  have hx := B.exec
  have hb := B.bytes
  have hr := B.returns
  have hts : ∀ w ∈ wsA, w.before _ s = true := fun w h => atoms_spec (ws := .code yX12_push cX12_push 3 none :: wsA) B.pre w (List.mem_cons_of_mem _ h)
  have hown : s.vm.findClass RX12 = some m.cls := findClass_of_methodNamed B.named
  subst hsz
  have hLA : LA (dm L s.heap.size) L := ⟨hL, fun a h => Or.inl h⟩
  have hA : ∀ q : Nat, s.heap.size ≤ q → dm L s.heap.size q := fun q h => Or.inr h
  have hS : va_S (dm L s.heap.size) s.heap s.heap [] := va_S.rf
  have hB : TS D cA L T r ry [(12, 18)] σ σ ρ s.heap := ⟨hP, hW, FR.rf⟩
  have hl := lv_entry ([.ref h0, .long p1]) (n := 3) (Nat.le_of_ble_eq_true rfl)
  rw [lg_entry_eq]
  generalize (lg_sl ([.ref h0, .long p1]) ++ List.replicate (3 - (lg_sl ([.ref h0, .long p1])).length) Slot.unset).toArray = ls at hl ⊢
  have hl : lv_has ls 3 [(0, .ref h0), (1, .long p1)] := hl
  have w_1 : 0 ≤ (σ h0 18).toInt ∧ (σ h0 18).toInt ≤ 64 := by have z := hB.2.1 h0 mh0 18; rw [th0] at z; exact z
  refine lv_aload_n hx hb dX12_push_0 rfl (lv_at hl 0 rfl) ?_
  refine t_gr hx hb hts hown hK hG hB mh0 th0 fq_12_17 rfl mw_5_233 dX12_push_1 (fun b_2 hb_2 mb_2 tb_2 => ?_)
  refine lv_aload_n hx hb dX12_push_4 rfl (lv_at hl 0 rfl) ?_
  refine t_gv hx hb hts hown hK hB mh0 th0 fi_12_18 rfl mw_5_234 dX12_push_5 ?_
  refine lv_lload_n hx hb dX12_push_8 rfl (lv_at hl 1 rfl) ?_
  refine t_sl hx hb hK hLA hB hS mb_2 tb_2 aj_68 (i_in (by omega) (by omega)) dX12_push_9 (fun H locs ρ_3 eρ_3 hB hS => ?_)
  refine lv_aload_n hx hb dX12_push_10 rfl (lv_at hl 0 rfl) ?_
  refine lv_dup hx hb dX12_push_11 rfl ?_
  refine t_gv hx hb hts hown hK hB mh0 th0 fi_12_18 rfl mw_5_234 dX12_push_12 ?_
  refine lv_iconst (v := 1) hx hb dX12_push_15 (by decide) ?_
  refine lv_iadd hx hb dX12_push_16 ?_
  refine lv_topi (fun x_4 ex_4 => ?_)
  have vx_4 := b_add (rfl : (σ h0 18).toInt = _) (by decide : (1 : Int32).toInt = 1) ex_4 (by omega) (by omega)
  refine t_pi hx hb hts hown hK hLA hB hS mh0 th0 fi_12_18 rfl rfl rfl (by first | omega | (subst_vars; omega)) (by first | omega | (subst_vars; omega)) (Or.inl (by decide)) mw_5_234 dX12_push_17 (fun H locs σ_5 eσ_5 hB hS => ?_)
  have k_6 : σ_5 h0 18 = x_4 := by rw [eσ_5]; exact up2_same _ _ _ _
  exact W.vret hx hb hr (fun t ht hW => ⟨⟨(σ_5, ρ_3), rfl, ⟨hB.2.1, hB.2.2, (show (σ_5 h0 18).toInt = (σ h0 18).toInt + 1 from (by rw [k_6]; omega))⟩, (show TP D cA L T r σ_5 ρ_3 t.heap from by rw [ht]; exact hB.1)⟩, hS.F ht⟩) hS.2.2 dX12_push_20
theorem dX12_pop_0 : decode cX12_pop 0 = .ok (.aload_n 0, 1) := by decide +kernel
theorem dX12_pop_1 : decode cX12_pop 1 = .ok (.dup, 1) := by decide +kernel
theorem dX12_pop_2 : decode cX12_pop 2 = .ok (.getfield 285, 3) := by decide +kernel
theorem dX12_pop_5 : decode cX12_pop 5 = .ok (.iconst 1, 1) := by decide +kernel
theorem dX12_pop_6 : decode cX12_pop 6 = .ok (.isub, 1) := by decide +kernel
theorem dX12_pop_7 : decode cX12_pop 7 = .ok (.putfield 285, 3) := by decide +kernel
theorem dX12_pop_10 : decode cX12_pop 10 = .ok (.aload_n 0, 1) := by decide +kernel
theorem dX12_pop_11 : decode cX12_pop 11 = .ok (.getfield 32, 3) := by decide +kernel
theorem dX12_pop_14 : decode cX12_pop 14 = .ok (.aload_n 0, 1) := by decide +kernel
theorem dX12_pop_15 : decode cX12_pop 15 = .ok (.getfield 285, 3) := by decide +kernel
theorem dX12_pop_18 : decode cX12_pop 18 = .ok (.laload, 1) := by decide +kernel
theorem dX12_pop_19 : decode cX12_pop 19 = .ok (.lreturn, 1) := by decide +kernel
set_option maxHeartbeats 4000000 in
set_option maxRecDepth 100000 in
theorem cz_X12_pop (l : Launch) (D : va_G) (cA : Nat → ClassId) (L : List Nat) (T : Nat → Nat) (r : Rg) (hG : GR L T r) (hL : L.Nodup) (σ : Sg) (ρ : Lg) (hW : WT L ry T σ) (sz : Nat) (h0 : Nat) (mh0 : h0 ∈ L) (th0 : T h0 = 12) (w0 : 1 ≤ (σ h0 18).toInt) : Met l yX12_pop (.code yX12_pop cX12_pop 1 (some .long) :: wsA) ({ frames := 0, cells := 0, slots := 0, locals := 0 }) (PR D cA L T r σ ρ sz [.ref h0]) (QL D cA L T r ry [(12, 18)] σ sz (fun x σ1 => ((σ1 h0 18).toInt = (σ h0 18).toInt - 1))) 0 0 (dm L sz) := by
  refine Met.ofW (cc := cX12_pop) (maxL := 1) (ret := (some .long)) (by decide) rfl ?_
  intro p e s m args below meth c s₁ B hml hv
  obtain ⟨rfl, hsz, hP, hK, hN⟩ := hv
  have hx := B.exec
  have hb := B.bytes
  have hr := B.returns
  have hts : ∀ w ∈ wsA, w.before _ s = true := fun w h => atoms_spec (ws := .code yX12_pop cX12_pop 1 (some .long) :: wsA) B.pre w (List.mem_cons_of_mem _ h)
  have hown : s.vm.findClass RX12 = some m.cls := findClass_of_methodNamed B.named
  subst hsz
  have hLA : LA (dm L s.heap.size) L := ⟨hL, fun a h => Or.inl h⟩
  have hA : ∀ q : Nat, s.heap.size ≤ q → dm L s.heap.size q := fun q h => Or.inr h
  have hS : va_S (dm L s.heap.size) s.heap s.heap [] := va_S.rf
  have hB : TS D cA L T r ry [(12, 18)] σ σ ρ s.heap := ⟨hP, hW, FR.rf⟩
  have hl := lv_entry ([.ref h0]) (n := 1) (Nat.le_of_ble_eq_true rfl)
  rw [lg_entry_eq]
  generalize (lg_sl ([.ref h0]) ++ List.replicate (1 - (lg_sl ([.ref h0])).length) Slot.unset).toArray = ls at hl ⊢
  have hl : lv_has ls 1 [(0, .ref h0)] := hl
  have w_1 : 0 ≤ (σ h0 18).toInt ∧ (σ h0 18).toInt ≤ 64 := by have z := hB.2.1 h0 mh0 18; rw [th0] at z; exact z
  refine lv_aload_n hx hb dX12_pop_0 rfl (lv_at hl 0 rfl) ?_
  refine lv_dup hx hb dX12_pop_1 rfl ?_
  refine t_gv hx hb hts hown hK hB mh0 th0 fi_12_18 rfl mw_5_234 dX12_pop_2 ?_
  refine lv_iconst (v := 1) hx hb dX12_pop_5 (by decide) ?_
  refine lv_isub hx hb dX12_pop_6 ?_
  refine lv_topi (fun x_2 ex_2 => ?_)
  have vx_2 := b_sub (rfl : (σ h0 18).toInt = _) (by decide : (1 : Int32).toInt = 1) ex_2 (by omega) (by omega)
  refine t_pi hx hb hts hown hK hLA hB hS mh0 th0 fi_12_18 rfl rfl rfl (by first | omega | (subst_vars; omega)) (by first | omega | (subst_vars; omega)) (Or.inl (by decide)) mw_5_234 dX12_pop_7 (fun H locs σ_3 eσ_3 hB hS => ?_)
  have k_4 : σ_3 h0 18 = x_2 := by rw [eσ_3]; exact up2_same _ _ _ _
  refine lv_aload_n hx hb dX12_pop_10 rfl (lv_at hl 0 rfl) ?_
  refine t_gr hx hb hts hown hK hG hB mh0 th0 fq_12_17 rfl mw_5_233 dX12_pop_11 (fun b_5 hb_5 mb_5 tb_5 => ?_)
  refine lv_aload_n hx hb dX12_pop_14 rfl (lv_at hl 0 rfl) ?_
  refine t_gv hx hb hts hown hK hB mh0 th0 fi_12_18 k_4 mw_5_234 dX12_pop_15 ?_
  refine t_al hx hb hK hB mb_5 tb_5 aj_68 (i_in (by omega) (by omega)) dX12_pop_18 (fun y_6 ey_6 => ?_)
  exact W.lret (v := y_6) hx hb hr (fun t ht hW => ⟨⟨y_6, (σ_3, ρ), rfl, ⟨hB.2.1, hB.2.2, (show (σ_3 h0 18).toInt = (σ h0 18).toInt - 1 from (by rw [k_4]; omega))⟩, (show TP D cA L T r σ_3 ρ t.heap from by rw [ht]; exact hB.1)⟩, hS.F ht⟩) hS.2.2 dX12_pop_19
theorem mw_7_157 : (.instanceMethod yX12_pop : Cond) ∈ wsA := wsA_t (List.mem_append_right _ (List.mem_append_right _ (List.mem_append_right _ (List.mem_append_right _ (List.mem_append_right _ (List.mem_append_right _ (List.mem_append_left _ (List.mem_of_getElem? (l := tables_1_7) (i := 157) rfl)))))))) rfl
theorem mp_7_0 : (.selects RX12 yX12_pop yX12_pop : Cond) ∈ wsA := wsA_p (q := (yX12_pop, 44)) (List.mem_append_right _ (List.mem_append_right _ (List.mem_append_right _ (List.mem_append_right _ (List.mem_append_right _ (List.mem_append_right _ (List.mem_append_left _ (List.mem_of_getElem? (l := lw_privs_7) (i := 0) rfl))))))))
theorem mw_7_158 : (.code yX12_pop cX12_pop 1 (some .long) : Cond) ∈ wsA := wsA_t (List.mem_append_right _ (List.mem_append_right _ (List.mem_append_right _ (List.mem_append_right _ (List.mem_append_right _ (List.mem_append_right _ (List.mem_append_left _ (List.mem_of_getElem? (l := tables_1_7) (i := 158) rfl)))))))) rfl
theorem mw_7_155 : (.methodLink RX12 292 yX12_pop : Cond) ∈ wsA := wsA_t (List.mem_append_right _ (List.mem_append_right _ (List.mem_append_right _ (List.mem_append_right _ (List.mem_append_right _ (List.mem_append_right _ (List.mem_append_left _ (List.mem_of_getElem? (l := tables_1_7) (i := 155) rfl)))))))) rfl
theorem mw_7_160 : (.static yX12_one : Cond) ∈ wsA := wsA_t (List.mem_append_right _ (List.mem_append_right _ (List.mem_append_right _ (List.mem_append_right _ (List.mem_append_right _ (List.mem_append_right _ (List.mem_append_left _ (List.mem_of_getElem? (l := tables_1_7) (i := 160) rfl)))))))) rfl
theorem mw_7_161 : (.code yX12_one cX12_one 5 (some .long) : Cond) ∈ wsA := wsA_t (List.mem_append_right _ (List.mem_append_right _ (List.mem_append_right _ (List.mem_append_right _ (List.mem_append_right _ (List.mem_append_right _ (List.mem_append_left _ (List.mem_of_getElem? (l := tables_1_7) (i := 161) rfl)))))))) rfl
theorem mw_7_159 : (.methodLink RX12 296 yX12_one : Cond) ∈ wsA := wsA_t (List.mem_append_right _ (List.mem_append_right _ (List.mem_append_right _ (List.mem_append_right _ (List.mem_append_right _ (List.mem_append_right _ (List.mem_append_left _ (List.mem_of_getElem? (l := tables_1_7) (i := 159) rfl)))))))) rfl
theorem mw_7_153 : (.instanceMethod yX12_push : Cond) ∈ wsA := wsA_t (List.mem_append_right _ (List.mem_append_right _ (List.mem_append_right _ (List.mem_append_right _ (List.mem_append_right _ (List.mem_append_right _ (List.mem_append_left _ (List.mem_of_getElem? (l := tables_1_7) (i := 153) rfl)))))))) rfl
theorem mp_6_15 : (.selects RX12 yX12_push yX12_push : Cond) ∈ wsA := wsA_p (q := (yX12_push, 44)) (List.mem_append_right _ (List.mem_append_right _ (List.mem_append_right _ (List.mem_append_right _ (List.mem_append_right _ (List.mem_append_left _ (List.mem_of_getElem? (l := lw_privs_6) (i := 15) rfl)))))))
theorem mw_7_154 : (.code yX12_push cX12_push 3 none : Cond) ∈ wsA := wsA_t (List.mem_append_right _ (List.mem_append_right _ (List.mem_append_right _ (List.mem_append_right _ (List.mem_append_right _ (List.mem_append_right _ (List.mem_append_left _ (List.mem_of_getElem? (l := tables_1_7) (i := 154) rfl)))))))) rfl
theorem mw_7_151 : (.methodLink RX12 288 yX12_push : Cond) ∈ wsA := wsA_t (List.mem_append_right _ (List.mem_append_right _ (List.mem_append_right _ (List.mem_append_right _ (List.mem_append_right _ (List.mem_append_right _ (List.mem_append_left _ (List.mem_of_getElem? (l := tables_1_7) (i := 151) rfl)))))))) rfl
theorem mw_5_235 : (.fieldLink RX12 36 "HillBendsModel" "word" "[J" : Cond) ∈ wsA := wsA_t (List.mem_append_right _ (List.mem_append_right _ (List.mem_append_right _ (List.mem_append_right _ (List.mem_append_left _ (List.mem_of_getElem? (l := tables_1_5) (i := 235) rfl)))))) rfl
theorem dX12_reckons_0 : decode cX12_reckons 0 = .ok (.aload_n 0, 1) := by decide +kernel
theorem dX12_reckons_1 : decode cX12_reckons 1 = .ok (.iconst 0, 1) := by decide +kernel
theorem dX12_reckons_2 : decode cX12_reckons 2 = .ok (.putfield 285, 3) := by decide +kernel
theorem dX12_reckons_5 : decode cX12_reckons 5 = .ok (.iload_n 2, 1) := by decide +kernel
theorem dX12_reckons_6 : decode cX12_reckons 6 = .ok (.istore 4, 2) := by decide +kernel
theorem dX12_reckons_8 : decode cX12_reckons 8 = .ok (.iload 4, 2) := by decide +kernel
theorem dX12_reckons_10 : decode cX12_reckons 10 = .ok (.iload_n 3, 1) := by decide +kernel
theorem dX12_reckons_11 : decode cX12_reckons 11 = .ok (.if_icmp .ge 124, 3) := by decide +kernel
theorem dX12_reckons_14 : decode cX12_reckons 14 = .ok (.aload_n 0, 1) := by decide +kernel
theorem dX12_reckons_15 : decode cX12_reckons 15 = .ok (.getfield 13, 3) := by decide +kernel
theorem dX12_reckons_18 : decode cX12_reckons 18 = .ok (.sipush 400, 3) := by decide +kernel
theorem dX12_reckons_21 : decode cX12_reckons 21 = .ok (.iload_n 1, 1) := by decide +kernel
theorem dX12_reckons_22 : decode cX12_reckons 22 = .ok (.imul, 1) := by decide +kernel
theorem dX12_reckons_23 : decode cX12_reckons 23 = .ok (.iload 4, 2) := by decide +kernel
theorem dX12_reckons_25 : decode cX12_reckons 25 = .ok (.iadd, 1) := by decide +kernel
theorem dX12_reckons_26 : decode cX12_reckons 26 = .ok (.iaload, 1) := by decide +kernel
theorem dX12_reckons_27 : decode cX12_reckons 27 = .ok (.bipush 15, 2) := by decide +kernel
theorem dX12_reckons_29 : decode cX12_reckons 29 = .ok (.iand, 1) := by decide +kernel
theorem dX12_reckons_30 : decode cX12_reckons 30 = .ok (.istore 5, 2) := by decide +kernel
theorem dX12_reckons_32 : decode cX12_reckons 32 = .ok (.aload_n 0, 1) := by decide +kernel
theorem dX12_reckons_33 : decode cX12_reckons 33 = .ok (.getfield 13, 3) := by decide +kernel
theorem dX12_reckons_36 : decode cX12_reckons 36 = .ok (.sipush 400, 3) := by decide +kernel
theorem dX12_reckons_39 : decode cX12_reckons 39 = .ok (.iload_n 1, 1) := by decide +kernel
theorem dX12_reckons_40 : decode cX12_reckons 40 = .ok (.imul, 1) := by decide +kernel
theorem dX12_reckons_41 : decode cX12_reckons 41 = .ok (.iload 4, 2) := by decide +kernel
theorem dX12_reckons_43 : decode cX12_reckons 43 = .ok (.iadd, 1) := by decide +kernel
theorem dX12_reckons_44 : decode cX12_reckons 44 = .ok (.iaload, 1) := by decide +kernel
theorem dX12_reckons_45 : decode cX12_reckons 45 = .ok (.iconst 4, 1) := by decide +kernel
theorem dX12_reckons_46 : decode cX12_reckons 46 = .ok (.ishr, 1) := by decide +kernel
theorem dX12_reckons_47 : decode cX12_reckons 47 = .ok (.istore 6, 2) := by decide +kernel
theorem dX12_reckons_49 : decode cX12_reckons 49 = .ok (.iload 5, 2) := by decide +kernel
theorem dX12_reckons_51 : decode cX12_reckons 51 = .ok (.ifCond .ne 13, 3) := by decide +kernel
theorem dX12_reckons_64 : decode cX12_reckons 64 = .ok (.iload 5, 2) := by decide +kernel
theorem dX12_reckons_66 : decode cX12_reckons 66 = .ok (.iconst 1, 1) := by decide +kernel
theorem dX12_reckons_67 : decode cX12_reckons 67 = .ok (.if_icmp .ne 17, 3) := by decide +kernel
theorem dX12_reckons_84 : decode cX12_reckons 84 = .ok (.iload 5, 2) := by decide +kernel
theorem dX12_reckons_86 : decode cX12_reckons 86 = .ok (.bipush 11, 2) := by decide +kernel
theorem dX12_reckons_88 : decode cX12_reckons 88 = .ok (.if_icmp .ne 16, 3) := by decide +kernel
theorem dX12_reckons_104 : decode cX12_reckons 104 = .ok (.aload_n 0, 1) := by decide +kernel
theorem dX12_reckons_105 : decode cX12_reckons 105 = .ok (.invokevirtual 292, 3) := by decide +kernel
theorem dX12_reckons_108 : decode cX12_reckons 108 = .ok (.lstore 7, 2) := by decide +kernel
theorem dX12_reckons_110 : decode cX12_reckons 110 = .ok (.aload_n 0, 1) := by decide +kernel
theorem dX12_reckons_111 : decode cX12_reckons 111 = .ok (.invokevirtual 292, 3) := by decide +kernel
theorem dX12_reckons_114 : decode cX12_reckons 114 = .ok (.lstore 9, 2) := by decide +kernel
theorem dX12_reckons_116 : decode cX12_reckons 116 = .ok (.aload_n 0, 1) := by decide +kernel
theorem dX12_reckons_117 : decode cX12_reckons 117 = .ok (.iload 5, 2) := by decide +kernel
theorem dX12_reckons_119 : decode cX12_reckons 119 = .ok (.lload 9, 2) := by decide +kernel
theorem dX12_reckons_121 : decode cX12_reckons 121 = .ok (.lload 7, 2) := by decide +kernel
theorem dX12_reckons_123 : decode cX12_reckons 123 = .ok (.invokestatic 296, 3) := by decide +kernel
theorem dX12_reckons_126 : decode cX12_reckons 126 = .ok (.invokevirtual 288, 3) := by decide +kernel
theorem dX12_reckons_129 : decode cX12_reckons 129 = .ok (.iinc 4 1, 3) := by decide +kernel
theorem dX12_reckons_132 : decode cX12_reckons 132 = .ok (.goto (-124), 3) := by decide +kernel
theorem dX12_reckons_91 : decode cX12_reckons 91 = .ok (.aload_n 0, 1) := by decide +kernel
theorem dX12_reckons_92 : decode cX12_reckons 92 = .ok (.lconst 1, 1) := by decide +kernel
theorem dX12_reckons_93 : decode cX12_reckons 93 = .ok (.aload_n 0, 1) := by decide +kernel
theorem dX12_reckons_94 : decode cX12_reckons 94 = .ok (.invokevirtual 292, 3) := by decide +kernel
theorem dX12_reckons_97 : decode cX12_reckons 97 = .ok (.lsub, 1) := by decide +kernel
theorem dX12_reckons_98 : decode cX12_reckons 98 = .ok (.invokevirtual 288, 3) := by decide +kernel
theorem dX12_reckons_101 : decode cX12_reckons 101 = .ok (.goto 28, 3) := by decide +kernel
theorem dX12_reckons_70 : decode cX12_reckons 70 = .ok (.aload_n 0, 1) := by decide +kernel
theorem dX12_reckons_71 : decode cX12_reckons 71 = .ok (.aload_n 0, 1) := by decide +kernel
theorem dX12_reckons_72 : decode cX12_reckons 72 = .ok (.getfield 36, 3) := by decide +kernel
theorem dX12_reckons_75 : decode cX12_reckons 75 = .ok (.iload 6, 2) := by decide +kernel
theorem dX12_reckons_77 : decode cX12_reckons 77 = .ok (.laload, 1) := by decide +kernel
theorem dX12_reckons_78 : decode cX12_reckons 78 = .ok (.invokevirtual 288, 3) := by decide +kernel
theorem dX12_reckons_81 : decode cX12_reckons 81 = .ok (.goto 48, 3) := by decide +kernel
theorem dX12_reckons_54 : decode cX12_reckons 54 = .ok (.aload_n 0, 1) := by decide +kernel
theorem dX12_reckons_55 : decode cX12_reckons 55 = .ok (.iload 6, 2) := by decide +kernel
theorem dX12_reckons_57 : decode cX12_reckons 57 = .ok (.i2l, 1) := by decide +kernel
theorem dX12_reckons_58 : decode cX12_reckons 58 = .ok (.invokevirtual 288, 3) := by decide +kernel
theorem dX12_reckons_61 : decode cX12_reckons 61 = .ok (.goto 68, 3) := by decide +kernel
theorem dX12_reckons_135 : decode cX12_reckons 135 = .ok (.aload_n 0, 1) := by decide +kernel
theorem dX12_reckons_136 : decode cX12_reckons 136 = .ok (.invokevirtual 292, 3) := by decide +kernel
theorem dX12_reckons_139 : decode cX12_reckons 139 = .ok (.lreturn, 1) := by decide +kernel
theorem mv_X12_pop : MV RX12 yX12_pop cX12_pop 1 (some .long) 0 := ⟨mw_7_157, mp_7_0, mw_1_13, mw_7_158, ⟨rfl, by decide, by decide, by decide +kernel⟩⟩
theorem ms_X12_one : MS RX12 yX12_one cX12_one 5 (some .long) 3 := ⟨mw_7_160, mw_1_13, mw_7_161, ⟨rfl, by decide, by decide, by decide +kernel⟩⟩
theorem mv_X12_push : MV RX12 yX12_push cX12_push 3 none 1 := ⟨mw_7_153, mp_6_15, mw_1_13, mw_7_154, ⟨rfl, by decide, by decide, by decide +kernel⟩⟩
set_option maxHeartbeats 4000000 in
set_option maxRecDepth 100000 in
theorem cz_X12_reckons (l : Launch) (D : va_G) (cA : Nat → ClassId) (L : List Nat) (T : Nat → Nat) (r : Rg) (hG : GR L T r) (hL : L.Nodup) (σ : Sg) (ρ : Lg) (hW : WT L ry T σ) (sz : Nat) (h0 : Nat) (mh0 : h0 ∈ L) (th0 : T h0 = 12) (p1 : Int32) (p2 : Int32) (p3 : Int32) (bg : Nat) (hbg : r h0 3 = some bg) (mbg : bg ∈ L) (tbg : T bg = 62) (w0 : 0 ≤ p1.toInt) (w1 : p1.toInt ≤ 5) (w2 : 0 ≤ p2.toInt) (w3 : p2.toInt ≤ p3.toInt) (w4 : p3.toInt ≤ 400) (w5 : dpt (σ bg) (400 * p1.toInt.toNat + p2.toInt.toNat) (p3.toInt.toNat - p2.toInt.toNat) = some 1) : Met l yX12_reckons (.code yX12_reckons cX12_reckons 11 (some .long) :: wsA) ({ frames := 1, cells := 0, slots := 0, locals := 24 }) (PR D cA L T r σ ρ sz [.ref h0, .int p1, .int p2, .int p3]) (QL D cA L T r ry [(12, 18)] σ sz (fun x σ1 => True)) 0 0 (dm L sz) := by
  refine Met.ofW (cc := cX12_reckons) (maxL := 11) (ret := (some .long)) (by decide) rfl ?_
  intro p e s m args below meth c s₁ B hml hv
  obtain ⟨rfl, hsz, hP, hK, hN⟩ := hv
  have hx := B.exec
  have hb := B.bytes
  have hr := B.returns
  have hts : ∀ w ∈ wsA, w.before _ s = true := fun w h => atoms_spec (ws := .code yX12_reckons cX12_reckons 11 (some .long) :: wsA) B.pre w (List.mem_cons_of_mem _ h)
  have hown : s.vm.findClass RX12 = some m.cls := findClass_of_methodNamed B.named
  subst hsz
  have hLA : LA (dm L s.heap.size) L := ⟨hL, fun a h => Or.inl h⟩
  have hA : ∀ q : Nat, s.heap.size ≤ q → dm L s.heap.size q := fun q h => Or.inr h
  have hS : va_S (dm L s.heap.size) s.heap s.heap [] := va_S.rf
  have hB : TS D cA L T r ry [(12, 18)] σ σ ρ s.heap := ⟨hP, hW, FR.rf⟩
  have hl := lv_entry ([.ref h0, .int p1, .int p2, .int p3]) (n := 11) (Nat.le_of_ble_eq_true rfl)
  rw [lg_entry_eq]
  generalize (lg_sl ([.ref h0, .int p1, .int p2, .int p3]) ++ List.replicate (11 - (lg_sl ([.ref h0, .int p1, .int p2, .int p3])).length) Slot.unset).toArray = ls at hl ⊢
  have hl : lv_has ls 11 [(0, .ref h0), (1, .int p1), (2, .int p2), (3, .int p3)] := hl
  refine lv_aload_n hx hb dX12_reckons_0 rfl (lv_at hl 0 rfl) ?_
  refine lv_iconst (v := 0) hx hb dX12_reckons_1 (by decide) ?_
  refine t_pi hx hb hts hown hK hLA hB hS mh0 th0 fi_12_18 rfl rfl rfl (by decide) (by decide) (Or.inl (by decide)) mw_5_234 dX12_reckons_2 (fun H locs σ_1 eσ_1 hB hS => ?_)
  have k_2 : σ_1 h0 18 = 0 := by rw [eσ_1]; exact up2_same _ _ _ _
  refine lv_iload_n hx hb dX12_reckons_5 rfl (lv_at hl 2 rfl) ?_
  refine lv_istore (lv' := [(4, .int p2), (0, .ref h0), (1, .int p1), (2, .int p2), (3, .int p3)]) hx hb dX12_reckons_6 hl (by decide) rfl (fun ls hl => ?_)
  refine w_loop (α := Int32 × Sg × Lg) (fun (i_3, σ_4, ρ_5) H locs ls => 0 ≤ i_3.toInt ∧ i_3.toInt ≤ 400 ∧ (dpt (σ bg) (400 * p1.toInt.toNat + p2.toInt.toNat) (i_3.toInt.toNat - p2.toInt.toNat) = some (σ_4 h0 18).toInt.toNat) ∧ (p2.toInt ≤ i_3.toInt) ∧ (i_3.toInt ≤ p3.toInt) ∧ TS D cA L T r ry [(12, 18)] σ σ_4 ρ_5 H ∧ va_S (dm L s.heap.size) s.heap H locs ∧ lv_has ls 11 [(4, .int i_3), (0, .ref h0), (1, .int p1), (2, .int p2), (3, .int p3)]) (fun (i_3, σ_4, ρ_5) => (400 - i_3.toInt).toNat) ?_ ⟨p2, σ_1, ρ⟩ ⟨(by omega), (by omega), (by rw [k_2, Nat.sub_self]; rfl), (by omega), (by omega), hB, hS, lv_sub hl [0, 1, 2, 3, 4] rfl⟩
  rintro ⟨i_3, σ_4, ρ_5⟩ H locs ls ⟨li_3, ui_3, g_7, g_8, g_9, hB, hS, hl⟩ ih_6
  have w_10 : 0 ≤ (σ_4 h0 18).toInt ∧ (σ_4 h0 18).toInt ≤ 64 := by have z := hB.2.1 h0 mh0 18; rw [th0] at z; exact z
  have rbg := FR.row hB.2.2 tbg (fun j => by simp)
  refine lv_iload hx hb dX12_reckons_8 (lv_at hl 0 rfl) ?_
  refine lv_iload_n hx hb dX12_reckons_10 rfl (lv_at hl 4 rfl) ?_
  refine lv_icmp_ge (tgt := 135) hx hb dX12_reckons_11 (by decide) (fun c_11 => ?_) (fun c_11 => ?_)
  · skip
    have uc_11 := j_le c_11
    have hz1 : (σ_4 h0 18).toInt.toNat = 1 := by have z := g_7; rw [show i_3.toInt.toNat - p2.toInt.toNat = p3.toInt.toNat - p2.toInt.toNat by omega, w5] at z; exact (Option.some.inj z).symm
    refine lv_aload_n hx hb dX12_reckons_135 rfl (lv_at hl 1 rfl) ?_
    refine t_cl (va_runV (As := []) (rest := []) ⟨hx, hb, hml, hown, hts⟩ (cz_X12_pop l D cA L T r hG hLA.1 σ_4 ρ_5 hB.2.1 _ h0 mh0 th0 (by omega)) (cV hts mv_X12_pop mw_7_155 rfl rfl ⟨Nat.le_of_ble_eq_true rfl, Nat.le_of_ble_eq_true rfl⟩) (pV hB.1 hK hN mh0 th0 (show shp cA 12 _ _ _ = .inr (12, Fs12 _ _ _) from rfl) rfl) rfl rfl hl.1 rfl (lv_room (Nat.le_of_ble_eq_true rfl)) dX12_reckons_136 ⟨Nat.le_of_ble_eq_true rfl, Nat.le_of_ble_eq_true rfl⟩) hLA hA hB hS (by decide) (fun y_14 σ_12 ρ_13 H locs hB fσ_12 pσ_12 hS => ?_)
    have w_15 : 0 ≤ (σ_12 h0 18).toInt ∧ (σ_12 h0 18).toInt ≤ 64 := by have z := hB.2.1 h0 mh0 18; rw [th0] at z; exact z
    exact W.lret (v := y_14) hx hb hr (fun t ht hW => ⟨⟨y_14, (σ_12, ρ_13), rfl, ⟨hB.2.1, hB.2.2, trivial⟩, (show TP D cA L T r σ_12 ρ_13 t.heap from by rw [ht]; exact hB.1)⟩, hS.F ht⟩) hS.2.2 dX12_reckons_139
  · skip
    have uc_11 := j_nle c_11
    refine lv_aload_n hx hb dX12_reckons_14 rfl (lv_at hl 1 rfl) ?_
    refine t_gk hx hb hts hown hK hB mh0 th0 fq_12_3 hbg mw_5_219 dX12_reckons_15 ?_
    refine lv_sipush (v := 400) hx hb dX12_reckons_18 (by decide) ?_
    refine lv_iload_n hx hb dX12_reckons_21 rfl (lv_at hl 2 rfl) ?_
    refine lv_imul hx hb dX12_reckons_22 ?_
    refine lv_topi (fun x_16 ex_16 => ?_)
    have vx_16 := b_mul (by decide : (400 : Int32).toInt = 400) (rfl : p1.toInt = _) ex_16 (by omega) (by omega)
    refine lv_iload hx hb dX12_reckons_23 (lv_at hl 0 rfl) ?_
    refine lv_iadd hx hb dX12_reckons_25 ?_
    refine lv_topi (fun x_17 ex_17 => ?_)
    have vx_17 := b_add (rfl : x_16.toInt = _) (rfl : i_3.toInt = _) ex_17 (by omega) (by omega)
    refine t_ai hx hb hK hB mbg tbg ai_62 (fun _ => rfl) (i_in (by omega) (by omega)) dX12_reckons_26 (fun x_18 ex_18 lx_18 ux_18 => ?_)
    have cx_18 := congrArg Int32.toInt ex_18
    refine lv_bipush (v := 15) hx hb dX12_reckons_27 (by decide) ?_
    refine lv_iand hx hb dX12_reckons_29 ?_
    refine lv_topi (fun x_19 ex_19 => ?_)
    obtain ⟨lx_19, ux_19⟩ := and_m 4 (n := 15) (by decide) (by decide) (by decide) ex_19
    refine lv_istore (lv' := [(5, .int x_19), (4, .int i_3), (0, .ref h0), (1, .int p1), (2, .int p2), (3, .int p3)]) hx hb dX12_reckons_30 hl (by decide) rfl (fun ls hl => ?_)
    refine lv_aload_n hx hb dX12_reckons_32 rfl (lv_at hl 2 rfl) ?_
    refine t_gk hx hb hts hown hK hB mh0 th0 fq_12_3 hbg mw_5_219 dX12_reckons_33 ?_
    refine lv_sipush (v := 400) hx hb dX12_reckons_36 (by decide) ?_
    refine lv_iload_n hx hb dX12_reckons_39 rfl (lv_at hl 3 rfl) ?_
    refine lv_imul hx hb dX12_reckons_40 ?_
    refine lv_topi (fun x_20 ex_20 => ?_)
    have vx_20 := b_mul (by decide : (400 : Int32).toInt = 400) (rfl : p1.toInt = _) ex_20 (by omega) (by omega)
    refine lv_iload hx hb dX12_reckons_41 (lv_at hl 1 rfl) ?_
    refine lv_iadd hx hb dX12_reckons_43 ?_
    refine lv_topi (fun x_21 ex_21 => ?_)
    have vx_21 := b_add (rfl : x_20.toInt = _) (rfl : i_3.toInt = _) ex_21 (by omega) (by omega)
    refine t_ai hx hb hK hB mbg tbg ai_62 (fun _ => rfl) (i_in (by omega) (by omega)) dX12_reckons_44 (fun x_22 ex_22 lx_22 ux_22 => ?_)
    have cx_22 := congrArg Int32.toInt ex_22
    refine lv_iconst (v := 4) hx hb dX12_reckons_45 (by decide) ?_
    refine lv_ishr hx hb dX12_reckons_46 ?_
    refine lv_topi (fun x_23 ex_23 => ?_)
    refine lv_istore (lv' := [(6, .int x_23), (5, .int x_19), (4, .int i_3), (0, .ref h0), (1, .int p1), (2, .int p2), (3, .int p3)]) hx hb dX12_reckons_47 hl (by decide) rfl (fun ls hl => ?_)
    have hn1 : x_17.toNatClampNeg = x_17.toInt.toNat := rfl
    have hn2 : x_21.toNatClampNeg = x_21.toInt.toNat := rfl
    have hs2 : x_22 = x_18 := by rw [ex_22, ex_18, show x_21.toNatClampNeg = x_17.toNatClampNeg by omega]
    obtain ⟨d, hd1, hd2⟩ := dpt_nx (k := i_3.toInt.toNat - p2.toInt.toNat) w5 (by omega) g_7
    have hx1 : stp x_18 (σ_4 h0 18).toInt.toNat = some d := by rw [ex_18, rbg, show x_17.toNatClampNeg = 400 * p1.toInt.toNat + p2.toInt.toNat + (i_3.toInt.toNat - p2.toInt.toNat) by omega]; exact hd1
    refine lv_iload hx hb dX12_reckons_49 (lv_at hl 1 rfl) ?_
    refine lv_if_ne (tgt := 64) hx hb dX12_reckons_51 (by decide) (fun c_24 => ?_) (fun c_24 => ?_)
    · skip
      have uc_24 := i_ne (n := 0) (by decide) c_24
      refine lv_iload hx hb dX12_reckons_64 (lv_at hl 1 rfl) ?_
      refine lv_iconst (v := 1) hx hb dX12_reckons_66 (by decide) ?_
      refine lv_icmp_ne (tgt := 84) hx hb dX12_reckons_67 (by decide) (fun c_25 => ?_) (fun c_25 => ?_)
      · skip
        have uc_25 := i_ne (n := 1) (by decide) c_25
        refine lv_iload hx hb dX12_reckons_84 (lv_at hl 1 rfl) ?_
        refine lv_bipush (v := 11) hx hb dX12_reckons_86 (by decide) ?_
        refine lv_icmp_ne (tgt := 104) hx hb dX12_reckons_88 (by decide) (fun c_26 => ?_) (fun c_26 => ?_)
        · skip
          have uc_26 := i_ne (n := 11) (by decide) c_26
          obtain ⟨q1, q2⟩ := stp_ib hx1 ex_19 (by omega) (by omega) (by omega)
          refine lv_aload_n hx hb dX12_reckons_104 rfl (lv_at hl 3 rfl) ?_
          refine t_cl (va_runV (As := []) (rest := []) ⟨hx, hb, hml, hown, hts⟩ (cz_X12_pop l D cA L T r hG hLA.1 σ_4 ρ_5 hB.2.1 _ h0 mh0 th0 (by omega)) (cV hts mv_X12_pop mw_7_155 rfl rfl ⟨Nat.le_of_ble_eq_true rfl, Nat.le_of_ble_eq_true rfl⟩) (pV hB.1 hK hN mh0 th0 (show shp cA 12 _ _ _ = .inr (12, Fs12 _ _ _) from rfl) rfl) rfl rfl hl.1 rfl (lv_room (Nat.le_of_ble_eq_true rfl)) dX12_reckons_105 ⟨Nat.le_of_ble_eq_true rfl, Nat.le_of_ble_eq_true rfl⟩) hLA hA hB hS (by decide) (fun y_29 σ_27 ρ_28 H locs hB fσ_27 pσ_27 hS => ?_)
          have w_30 : 0 ≤ (σ_27 h0 18).toInt ∧ (σ_27 h0 18).toInt ≤ 64 := by have z := hB.2.1 h0 mh0 18; rw [th0] at z; exact z
          refine lv_lstore (lv' := [(7, .long y_29), (6, .int x_23), (5, .int x_19), (4, .int i_3), (0, .ref h0), (1, .int p1), (2, .int p2), (3, .int p3)]) hx hb dX12_reckons_108 hl (by decide) rfl (fun ls hl => ?_)
          refine lv_aload_n hx hb dX12_reckons_110 rfl (lv_at hl 4 rfl) ?_
          refine t_cl (va_runV (As := []) (rest := []) ⟨hx, hb, hml, hown, hts⟩ (cz_X12_pop l D cA L T r hG hLA.1 σ_27 ρ_28 hB.2.1 _ h0 mh0 th0 (by omega)) (cV hts mv_X12_pop mw_7_155 rfl rfl ⟨Nat.le_of_ble_eq_true rfl, Nat.le_of_ble_eq_true rfl⟩) (pV hB.1 hK hN mh0 th0 (show shp cA 12 _ _ _ = .inr (12, Fs12 _ _ _) from rfl) rfl) rfl rfl hl.1 rfl (lv_room (Nat.le_of_ble_eq_true rfl)) dX12_reckons_111 ⟨Nat.le_of_ble_eq_true rfl, Nat.le_of_ble_eq_true rfl⟩) hLA hA hB hS (by decide) (fun y_33 σ_31 ρ_32 H locs hB fσ_31 pσ_31 hS => ?_)
          have w_34 : 0 ≤ (σ_31 h0 18).toInt ∧ (σ_31 h0 18).toInt ≤ 64 := by have z := hB.2.1 h0 mh0 18; rw [th0] at z; exact z
          refine lv_lstore (lv' := [(9, .long y_33), (7, .long y_29), (6, .int x_23), (5, .int x_19), (4, .int i_3), (0, .ref h0), (1, .int p1), (2, .int p2), (3, .int p3)]) hx hb dX12_reckons_114 hl (by decide) rfl (fun ls hl => ?_)
          refine lv_aload_n hx hb dX12_reckons_116 rfl (lv_at hl 5 rfl) ?_
          refine lv_iload hx hb dX12_reckons_117 (lv_at hl 3 rfl) ?_
          refine lv_lload hx hb dX12_reckons_119 (lv_at hl 0 rfl) ?_
          refine lv_lload hx hb dX12_reckons_121 (lv_at hl 1 rfl) ?_
          refine t_cl (va_runS (As := [.int x_19, .long y_33, .long y_29]) (rest := [.ref h0]) ⟨hx, hb, hml, hown, hts⟩ (cy_X12_one l D cA L T r hG hLA.1 σ_31 ρ_32 hB.2.1 _ x_19 y_33 y_29) (cS hts ms_X12_one mw_7_159 rfl rfl ⟨Nat.le_of_ble_eq_true rfl, Nat.le_of_ble_eq_true rfl⟩) (pS hB.1 hK hN) rfl rfl hl.1 rfl (lv_room (Nat.le_of_ble_eq_true rfl)) dX12_reckons_123 ⟨Nat.le_of_ble_eq_true rfl, Nat.le_of_ble_eq_true rfl⟩) hLA hA hB hS (by decide) (fun y_37 σ_35 ρ_36 H locs hB fσ_35 pσ_35 hS => ?_)
          have qσ_35 := FR.nil fσ_35
          subst qσ_35
          refine t_cv (va_runV (As := [.long y_37]) (rest := []) ⟨hx, hb, hml, hown, hts⟩ (cz_X12_push l D cA L T r hG hLA.1 σ_31 ρ_36 hB.2.1 _ h0 mh0 th0 y_37 (by omega)) (cV hts mv_X12_push mw_7_151 rfl rfl ⟨Nat.le_of_ble_eq_true rfl, Nat.le_of_ble_eq_true rfl⟩) (pV hB.1 hK hN mh0 th0 (show shp cA 12 _ _ _ = .inr (12, Fs12 _ _ _) from rfl) rfl) rfl rfl hl.1 rfl (lv_room (Nat.le_of_ble_eq_true rfl)) dX12_reckons_126 ⟨Nat.le_of_ble_eq_true rfl, Nat.le_of_ble_eq_true rfl⟩) hLA hA hB hS (by decide) (fun σ_38 ρ_39 H locs hB fσ_38 pσ_38 hS => ?_)
          have w_41 : 0 ≤ (σ_38 h0 18).toInt ∧ (σ_38 h0 18).toInt ≤ 64 := by have z := hB.2.1 h0 mh0 18; rw [th0] at z; exact z
          obtain ⟨x_42, ex_42⟩ : ∃ y : Int32, y = i_3 + 1 := ⟨_, rfl⟩
          have vx_42 := b_add (rfl : i_3.toInt = _) (by decide : (1 : Int32).toInt = 1) ex_42 (by omega) (by omega)
          refine lv_iinc (v := x_42) (lv' := [(4, .int x_42), (9, .long y_33), (7, .long y_29), (6, .int x_23), (5, .int x_19), (0, .ref h0), (1, .int p1), (2, .int p2), (3, .int p3)]) hx hb dX12_reckons_129 hl (k := 4) rfl (by rw [ex_42]; rfl) (by decide) rfl (fun ls hl => ?_)
          refine lv_goto (tgt := 8) hx hb dX12_reckons_132 (by decide) ?_
          exact ih_6 ⟨x_42, σ_38, ρ_39⟩ _ _ _ ⟨(by omega), (by omega), (by rw [show x_42.toInt.toNat - p2.toInt.toNat = (i_3.toInt.toNat - p2.toInt.toNat) + 1 by omega, hd2]; congr 1; omega), (by omega), (by omega), hB, hS, lv_sub hl [0, 5, 6, 7, 8] rfl⟩ (by show (400 - x_42.toInt).toNat < (400 - i_3.toInt).toNat; omega)
        · skip
          have uc_26 := i_eq (n := 11) (by decide) c_26
          obtain ⟨q1, q2⟩ := stp_i11 hx1 ex_19 (by omega)
          refine lv_aload_n hx hb dX12_reckons_91 rfl (lv_at hl 3 rfl) ?_
          refine lv_lconst (v := 1) hx hb dX12_reckons_92 (by decide) ?_
          refine lv_aload_n hx hb dX12_reckons_93 rfl (lv_at hl 3 rfl) ?_
          refine t_cl (va_runV (As := []) (rest := [.long 1, .ref h0]) ⟨hx, hb, hml, hown, hts⟩ (cz_X12_pop l D cA L T r hG hLA.1 σ_4 ρ_5 hB.2.1 _ h0 mh0 th0 (by omega)) (cV hts mv_X12_pop mw_7_155 rfl rfl ⟨Nat.le_of_ble_eq_true rfl, Nat.le_of_ble_eq_true rfl⟩) (pV hB.1 hK hN mh0 th0 (show shp cA 12 _ _ _ = .inr (12, Fs12 _ _ _) from rfl) rfl) rfl rfl hl.1 rfl (lv_room (Nat.le_of_ble_eq_true rfl)) dX12_reckons_94 ⟨Nat.le_of_ble_eq_true rfl, Nat.le_of_ble_eq_true rfl⟩) hLA hA hB hS (by decide) (fun y_45 σ_43 ρ_44 H locs hB fσ_43 pσ_43 hS => ?_)
          have w_46 : 0 ≤ (σ_43 h0 18).toInt ∧ (σ_43 h0 18).toInt ≤ 64 := by have z := hB.2.1 h0 mh0 18; rw [th0] at z; exact z
          refine lv_lsub hx hb dX12_reckons_97 ?_
          refine lv_topl (fun y_47 ey_47 => ?_)
          refine t_cv (va_runV (As := [.long y_47]) (rest := []) ⟨hx, hb, hml, hown, hts⟩ (cz_X12_push l D cA L T r hG hLA.1 σ_43 ρ_44 hB.2.1 _ h0 mh0 th0 y_47 (by omega)) (cV hts mv_X12_push mw_7_151 rfl rfl ⟨Nat.le_of_ble_eq_true rfl, Nat.le_of_ble_eq_true rfl⟩) (pV hB.1 hK hN mh0 th0 (show shp cA 12 _ _ _ = .inr (12, Fs12 _ _ _) from rfl) rfl) rfl rfl hl.1 rfl (lv_room (Nat.le_of_ble_eq_true rfl)) dX12_reckons_98 ⟨Nat.le_of_ble_eq_true rfl, Nat.le_of_ble_eq_true rfl⟩) hLA hA hB hS (by decide) (fun σ_48 ρ_49 H locs hB fσ_48 pσ_48 hS => ?_)
          have w_51 : 0 ≤ (σ_48 h0 18).toInt ∧ (σ_48 h0 18).toInt ≤ 64 := by have z := hB.2.1 h0 mh0 18; rw [th0] at z; exact z
          refine lv_goto (tgt := 129) hx hb dX12_reckons_101 (by decide) ?_
          obtain ⟨x_52, ex_52⟩ : ∃ y : Int32, y = i_3 + 1 := ⟨_, rfl⟩
          have vx_52 := b_add (rfl : i_3.toInt = _) (by decide : (1 : Int32).toInt = 1) ex_52 (by omega) (by omega)
          refine lv_iinc (v := x_52) (lv' := [(4, .int x_52), (6, .int x_23), (5, .int x_19), (0, .ref h0), (1, .int p1), (2, .int p2), (3, .int p3)]) hx hb dX12_reckons_129 hl (k := 2) rfl (by rw [ex_52]; rfl) (by decide) rfl (fun ls hl => ?_)
          refine lv_goto (tgt := 8) hx hb dX12_reckons_132 (by decide) ?_
          exact ih_6 ⟨x_52, σ_48, ρ_49⟩ _ _ _ ⟨(by omega), (by omega), (by rw [show x_52.toInt.toNat - p2.toInt.toNat = (i_3.toInt.toNat - p2.toInt.toNat) + 1 by omega, hd2]; congr 1; omega), (by omega), (by omega), hB, hS, lv_sub hl [0, 3, 4, 5, 6] rfl⟩ (by show (400 - x_52.toInt).toNat < (400 - i_3.toInt).toNat; omega)
      · skip
        have uc_25 := i_eq (n := 1) (by decide) c_25
        obtain ⟨q1, q2, q3, q4⟩ := stp_i1 hx1 ex_19 (by omega)
        have q5 : x_23.toInt = (x_18 >>> 4).toInt := by rw [ex_23, hs2, show (4 : Int32) &&& 31 = 4 from by decide]
        refine lv_aload_n hx hb dX12_reckons_70 rfl (lv_at hl 3 rfl) ?_
        refine lv_aload_n hx hb dX12_reckons_71 rfl (lv_at hl 3 rfl) ?_
        refine t_gr hx hb hts hown hK hG hB mh0 th0 fq_12_19 rfl mw_5_235 dX12_reckons_72 (fun b_53 hb_53 mb_53 tb_53 => ?_)
        refine lv_iload hx hb dX12_reckons_75 (lv_at hl 0 rfl) ?_
        refine t_al hx hb hK hB mb_53 tb_53 aj_69 (i_in (by omega) (by omega)) dX12_reckons_77 (fun y_54 ey_54 => ?_)
        refine t_cv (va_runV (As := [.long y_54]) (rest := []) ⟨hx, hb, hml, hown, hts⟩ (cz_X12_push l D cA L T r hG hLA.1 σ_4 ρ_5 hB.2.1 _ h0 mh0 th0 y_54 (by omega)) (cV hts mv_X12_push mw_7_151 rfl rfl ⟨Nat.le_of_ble_eq_true rfl, Nat.le_of_ble_eq_true rfl⟩) (pV hB.1 hK hN mh0 th0 (show shp cA 12 _ _ _ = .inr (12, Fs12 _ _ _) from rfl) rfl) rfl rfl hl.1 rfl (lv_room (Nat.le_of_ble_eq_true rfl)) dX12_reckons_78 ⟨Nat.le_of_ble_eq_true rfl, Nat.le_of_ble_eq_true rfl⟩) hLA hA hB hS (by decide) (fun σ_55 ρ_56 H locs hB fσ_55 pσ_55 hS => ?_)
        have w_58 : 0 ≤ (σ_55 h0 18).toInt ∧ (σ_55 h0 18).toInt ≤ 64 := by have z := hB.2.1 h0 mh0 18; rw [th0] at z; exact z
        refine lv_goto (tgt := 129) hx hb dX12_reckons_81 (by decide) ?_
        obtain ⟨x_59, ex_59⟩ : ∃ y : Int32, y = i_3 + 1 := ⟨_, rfl⟩
        have vx_59 := b_add (rfl : i_3.toInt = _) (by decide : (1 : Int32).toInt = 1) ex_59 (by omega) (by omega)
        refine lv_iinc (v := x_59) (lv' := [(4, .int x_59), (6, .int x_23), (5, .int x_19), (0, .ref h0), (1, .int p1), (2, .int p2), (3, .int p3)]) hx hb dX12_reckons_129 hl (k := 2) rfl (by rw [ex_59]; rfl) (by decide) rfl (fun ls hl => ?_)
        refine lv_goto (tgt := 8) hx hb dX12_reckons_132 (by decide) ?_
        exact ih_6 ⟨x_59, σ_55, ρ_56⟩ _ _ _ ⟨(by omega), (by omega), (by rw [show x_59.toInt.toNat - p2.toInt.toNat = (i_3.toInt.toNat - p2.toInt.toNat) + 1 by omega, hd2]; congr 1; omega), (by omega), (by omega), hB, hS, lv_sub hl [0, 3, 4, 5, 6] rfl⟩ (by show (400 - x_59.toInt).toNat < (400 - i_3.toInt).toNat; omega)
    · skip
      have uc_24 := i_eq (n := 0) (by decide) c_24
      obtain ⟨q1, q2⟩ := stp_i0 hx1 ex_19 (by omega)
      refine lv_aload_n hx hb dX12_reckons_54 rfl (lv_at hl 3 rfl) ?_
      refine lv_iload hx hb dX12_reckons_55 (lv_at hl 0 rfl) ?_
      refine lv_i2l (v := x_23.toInt64) hx hb dX12_reckons_57 rfl ?_
      refine t_cv (va_runV (As := [.long x_23.toInt64]) (rest := []) ⟨hx, hb, hml, hown, hts⟩ (cz_X12_push l D cA L T r hG hLA.1 σ_4 ρ_5 hB.2.1 _ h0 mh0 th0 (x_23.toInt64) (by omega)) (cV hts mv_X12_push mw_7_151 rfl rfl ⟨Nat.le_of_ble_eq_true rfl, Nat.le_of_ble_eq_true rfl⟩) (pV hB.1 hK hN mh0 th0 (show shp cA 12 _ _ _ = .inr (12, Fs12 _ _ _) from rfl) rfl) rfl rfl hl.1 rfl (lv_room (Nat.le_of_ble_eq_true rfl)) dX12_reckons_58 ⟨Nat.le_of_ble_eq_true rfl, Nat.le_of_ble_eq_true rfl⟩) hLA hA hB hS (by decide) (fun σ_60 ρ_61 H locs hB fσ_60 pσ_60 hS => ?_)
      have w_63 : 0 ≤ (σ_60 h0 18).toInt ∧ (σ_60 h0 18).toInt ≤ 64 := by have z := hB.2.1 h0 mh0 18; rw [th0] at z; exact z
      refine lv_goto (tgt := 129) hx hb dX12_reckons_61 (by decide) ?_
      obtain ⟨x_64, ex_64⟩ : ∃ y : Int32, y = i_3 + 1 := ⟨_, rfl⟩
      have vx_64 := b_add (rfl : i_3.toInt = _) (by decide : (1 : Int32).toInt = 1) ex_64 (by omega) (by omega)
      refine lv_iinc (v := x_64) (lv' := [(4, .int x_64), (6, .int x_23), (5, .int x_19), (0, .ref h0), (1, .int p1), (2, .int p2), (3, .int p3)]) hx hb dX12_reckons_129 hl (k := 2) rfl (by rw [ex_64]; rfl) (by decide) rfl (fun ls hl => ?_)
      refine lv_goto (tgt := 8) hx hb dX12_reckons_132 (by decide) ?_
      exact ih_6 ⟨x_64, σ_60, ρ_61⟩ _ _ _ ⟨(by omega), (by omega), (by rw [show x_64.toInt.toNat - p2.toInt.toNat = (i_3.toInt.toNat - p2.toInt.toNat) + 1 by omega, hd2]; congr 1; omega), (by omega), (by omega), hB, hS, lv_sub hl [0, 3, 4, 5, 6] rfl⟩ (by show (400 - x_64.toInt).toNat < (400 - i_3.toInt).toNat; omega)
theorem mw_7_149 : (.instanceMethod yX12_reckons : Cond) ∈ wsA := wsA_t (List.mem_append_right _ (List.mem_append_right _ (List.mem_append_right _ (List.mem_append_right _ (List.mem_append_right _ (List.mem_append_right _ (List.mem_append_left _ (List.mem_of_getElem? (l := tables_1_7) (i := 149) rfl)))))))) rfl
theorem mp_6_14 : (.selects RX12 yX12_reckons yX12_reckons : Cond) ∈ wsA := wsA_p (q := (yX12_reckons, 44)) (List.mem_append_right _ (List.mem_append_right _ (List.mem_append_right _ (List.mem_append_right _ (List.mem_append_right _ (List.mem_append_left _ (List.mem_of_getElem? (l := lw_privs_6) (i := 14) rfl)))))))
theorem mw_7_150 : (.code yX12_reckons cX12_reckons 11 (some .long) : Cond) ∈ wsA := wsA_t (List.mem_append_right _ (List.mem_append_right _ (List.mem_append_right _ (List.mem_append_right _ (List.mem_append_right _ (List.mem_append_right _ (List.mem_append_left _ (List.mem_of_getElem? (l := tables_1_7) (i := 150) rfl)))))))) rfl
theorem mw_7_147 : (.methodLink RX12 340 yX12_reckons : Cond) ∈ wsA := wsA_t (List.mem_append_right _ (List.mem_append_right _ (List.mem_append_right _ (List.mem_append_right _ (List.mem_append_right _ (List.mem_append_right _ (List.mem_append_left _ (List.mem_of_getElem? (l := tables_1_7) (i := 147) rfl)))))))) rfl
theorem dX12_summedBy_0 : decode cX12_summedBy 0 = .ok (.iconst 0, 1) := by decide +kernel
theorem dX12_summedBy_1 : decode cX12_summedBy 1 = .ok (.istore_n 2, 1) := by decide +kernel
theorem dX12_summedBy_2 : decode cX12_summedBy 2 = .ok (.iload_n 2, 1) := by decide +kernel
theorem dX12_summedBy_3 : decode cX12_summedBy 3 = .ok (.aload_n 0, 1) := by decide +kernel
theorem dX12_summedBy_4 : decode cX12_summedBy 4 = .ok (.getfield 23, 3) := by decide +kernel
theorem dX12_summedBy_7 : decode cX12_summedBy 7 = .ok (.iload_n 1, 1) := by decide +kernel
theorem dX12_summedBy_8 : decode cX12_summedBy 8 = .ok (.iaload, 1) := by decide +kernel
theorem dX12_summedBy_9 : decode cX12_summedBy 9 = .ok (.if_icmp .ge 75, 3) := by decide +kernel
theorem dX12_summedBy_12 : decode cX12_summedBy 12 = .ok (.bipush 48, 2) := by decide +kernel
theorem dX12_summedBy_14 : decode cX12_summedBy 14 = .ok (.iload_n 1, 1) := by decide +kernel
theorem dX12_summedBy_15 : decode cX12_summedBy 15 = .ok (.imul, 1) := by decide +kernel
theorem dX12_summedBy_16 : decode cX12_summedBy 16 = .ok (.iconst 4, 1) := by decide +kernel
theorem dX12_summedBy_17 : decode cX12_summedBy 17 = .ok (.iload_n 2, 1) := by decide +kernel
theorem dX12_summedBy_18 : decode cX12_summedBy 18 = .ok (.imul, 1) := by decide +kernel
theorem dX12_summedBy_19 : decode cX12_summedBy 19 = .ok (.iadd, 1) := by decide +kernel
theorem dX12_summedBy_20 : decode cX12_summedBy 20 = .ok (.istore_n 3, 1) := by decide +kernel
theorem dX12_summedBy_21 : decode cX12_summedBy 21 = .ok (.aload_n 0, 1) := by decide +kernel
theorem dX12_summedBy_22 : decode cX12_summedBy 22 = .ok (.getfield 20, 3) := by decide +kernel
theorem dX12_summedBy_25 : decode cX12_summedBy 25 = .ok (.iload_n 3, 1) := by decide +kernel
theorem dX12_summedBy_26 : decode cX12_summedBy 26 = .ok (.iconst 2, 1) := by decide +kernel
theorem dX12_summedBy_27 : decode cX12_summedBy 27 = .ok (.iadd, 1) := by decide +kernel
theorem dX12_summedBy_28 : decode cX12_summedBy 28 = .ok (.iaload, 1) := by decide +kernel
theorem dX12_summedBy_29 : decode cX12_summedBy 29 = .ok (.ifCond .lt 29, 3) := by decide +kernel
theorem dX12_summedBy_58 : decode cX12_summedBy 58 = .ok (.aload_n 0, 1) := by decide +kernel
theorem dX12_summedBy_59 : decode cX12_summedBy 59 = .ok (.iload_n 1, 1) := by decide +kernel
theorem dX12_summedBy_60 : decode cX12_summedBy 60 = .ok (.aload_n 0, 1) := by decide +kernel
theorem dX12_summedBy_61 : decode cX12_summedBy 61 = .ok (.getfield 20, 3) := by decide +kernel
theorem dX12_summedBy_64 : decode cX12_summedBy 64 = .ok (.iload_n 3, 1) := by decide +kernel
theorem dX12_summedBy_65 : decode cX12_summedBy 65 = .ok (.iaload, 1) := by decide +kernel
theorem dX12_summedBy_66 : decode cX12_summedBy 66 = .ok (.aload_n 0, 1) := by decide +kernel
theorem dX12_summedBy_67 : decode cX12_summedBy 67 = .ok (.getfield 20, 3) := by decide +kernel
theorem dX12_summedBy_70 : decode cX12_summedBy 70 = .ok (.iload_n 3, 1) := by decide +kernel
theorem dX12_summedBy_71 : decode cX12_summedBy 71 = .ok (.iconst 1, 1) := by decide +kernel
theorem dX12_summedBy_72 : decode cX12_summedBy 72 = .ok (.iadd, 1) := by decide +kernel
theorem dX12_summedBy_73 : decode cX12_summedBy 73 = .ok (.iaload, 1) := by decide +kernel
theorem dX12_summedBy_74 : decode cX12_summedBy 74 = .ok (.invokevirtual 340, 3) := by decide +kernel
theorem dX12_summedBy_77 : decode cX12_summedBy 77 = .ok (.lreturn, 1) := by decide +kernel
theorem dX12_summedBy_32 : decode cX12_summedBy 32 = .ok (.aload_n 0, 1) := by decide +kernel
theorem dX12_summedBy_33 : decode cX12_summedBy 33 = .ok (.iload_n 1, 1) := by decide +kernel
theorem dX12_summedBy_34 : decode cX12_summedBy 34 = .ok (.aload_n 0, 1) := by decide +kernel
theorem dX12_summedBy_35 : decode cX12_summedBy 35 = .ok (.getfield 20, 3) := by decide +kernel
theorem dX12_summedBy_38 : decode cX12_summedBy 38 = .ok (.iload_n 3, 1) := by decide +kernel
theorem dX12_summedBy_39 : decode cX12_summedBy 39 = .ok (.iconst 2, 1) := by decide +kernel
theorem dX12_summedBy_40 : decode cX12_summedBy 40 = .ok (.iadd, 1) := by decide +kernel
theorem dX12_summedBy_41 : decode cX12_summedBy 41 = .ok (.iaload, 1) := by decide +kernel
theorem dX12_summedBy_42 : decode cX12_summedBy 42 = .ok (.aload_n 0, 1) := by decide +kernel
theorem dX12_summedBy_43 : decode cX12_summedBy 43 = .ok (.getfield 20, 3) := by decide +kernel
theorem dX12_summedBy_46 : decode cX12_summedBy 46 = .ok (.iload_n 3, 1) := by decide +kernel
theorem dX12_summedBy_47 : decode cX12_summedBy 47 = .ok (.iconst 3, 1) := by decide +kernel
theorem dX12_summedBy_48 : decode cX12_summedBy 48 = .ok (.iadd, 1) := by decide +kernel
theorem dX12_summedBy_49 : decode cX12_summedBy 49 = .ok (.iaload, 1) := by decide +kernel
theorem dX12_summedBy_50 : decode cX12_summedBy 50 = .ok (.invokevirtual 340, 3) := by decide +kernel
theorem dX12_summedBy_53 : decode cX12_summedBy 53 = .ok (.lconst 1, 1) := by decide +kernel
theorem dX12_summedBy_54 : decode cX12_summedBy 54 = .ok (.lcmp, 1) := by decide +kernel
theorem dX12_summedBy_55 : decode cX12_summedBy 55 = .ok (.ifCond .ne 23, 3) := by decide +kernel
theorem dX12_summedBy_78 : decode cX12_summedBy 78 = .ok (.iinc 2 1, 3) := by decide +kernel
theorem dX12_summedBy_81 : decode cX12_summedBy 81 = .ok (.goto (-79), 3) := by decide +kernel
theorem dX12_summedBy_84 : decode cX12_summedBy 84 = .ok (.lconst 0, 1) := by decide +kernel
theorem dX12_summedBy_85 : decode cX12_summedBy 85 = .ok (.lreturn, 1) := by decide +kernel
theorem mv_X12_reckons : MV RX12 yX12_reckons cX12_reckons 11 (some .long) 3 := ⟨mw_7_149, mp_6_14, mw_1_13, mw_7_150, ⟨rfl, by decide, by decide, by decide +kernel⟩⟩
set_option maxHeartbeats 4000000 in
set_option maxRecDepth 100000 in
theorem cz_X12_summedBy (l : Launch) (D : va_G) (cA : Nat → ClassId) (L : List Nat) (T : Nat → Nat) (r : Rg) (hG : GR L T r) (hL : L.Nodup) (σ : Sg) (ρ : Lg) (hW : WT L ry T σ) (sz : Nat) (h0 : Nat) (mh0 : h0 ∈ L) (th0 : T h0 = 12) (p1 : Int32) (bg : Nat) (hbg : r h0 3 = some bg) (mbg : bg ∈ L) (tbg : T bg = 62) (bk : Nat) (hbk : r h0 5 = some bk) (mbk : bk ∈ L) (tbk : T bk = 64) (bc : Nat) (hbc : r h0 6 = some bc) (mbc : bc ∈ L) (tbc : T bc = 65) (w0 : 0 ≤ p1.toInt) (w1 : p1.toInt ≤ 5) (w2 : ∀ i : Nat, i < (σ bc p1.toNatClampNeg).toInt.toNat → CW (σ bg) (σ bk) p1.toInt.toNat i (400 * p1.toInt.toNat + 400)) : Met l yX12_summedBy (.code yX12_summedBy cX12_summedBy 4 (some .long) :: wsA) ({ frames := 2, cells := 0, slots := 0, locals := 54 }) (PR D cA L T r σ ρ sz [.ref h0, .int p1]) (QL D cA L T r ry [(12, 18)] σ sz (fun x σ1 => True)) 0 0 (dm L sz) := by
  refine Met.ofW (cc := cX12_summedBy) (maxL := 4) (ret := (some .long)) (by decide) rfl ?_
  intro p e s m args below meth c s₁ B hml hv
  obtain ⟨rfl, hsz, hP, hK, hN⟩ := hv
  have hx := B.exec
  have hb := B.bytes
  have hr := B.returns
  have hts : ∀ w ∈ wsA, w.before _ s = true := fun w h => atoms_spec (ws := .code yX12_summedBy cX12_summedBy 4 (some .long) :: wsA) B.pre w (List.mem_cons_of_mem _ h)
  have hown : s.vm.findClass RX12 = some m.cls := findClass_of_methodNamed B.named
  subst hsz
  have hLA : LA (dm L s.heap.size) L := ⟨hL, fun a h => Or.inl h⟩
  have hA : ∀ q : Nat, s.heap.size ≤ q → dm L s.heap.size q := fun q h => Or.inr h
  have hS : va_S (dm L s.heap.size) s.heap s.heap [] := va_S.rf
  have hB : TS D cA L T r ry [(12, 18)] σ σ ρ s.heap := ⟨hP, hW, FR.rf⟩
  have hl := lv_entry ([.ref h0, .int p1]) (n := 4) (Nat.le_of_ble_eq_true rfl)
  rw [lg_entry_eq]
  generalize (lg_sl ([.ref h0, .int p1]) ++ List.replicate (4 - (lg_sl ([.ref h0, .int p1])).length) Slot.unset).toArray = ls at hl ⊢
  have hl : lv_has ls 4 [(0, .ref h0), (1, .int p1)] := hl
  refine lv_iconst (v := 0) hx hb dX12_summedBy_0 (by decide) ?_
  refine lv_istore_n (lv' := [(2, .int 0), (0, .ref h0), (1, .int p1)]) hx hb dX12_summedBy_1 rfl hl (by decide) rfl (fun ls hl => ?_)
  refine w_loop (α := Int32 × Sg × Lg) (fun (i_1, σ_2, ρ_3) H locs ls => 0 ≤ i_1.toInt ∧ i_1.toInt ≤ 12 ∧ TS D cA L T r ry [(12, 18)] σ σ_2 ρ_3 H ∧ va_S (dm L s.heap.size) s.heap H locs ∧ lv_has ls 4 [(2, .int i_1), (0, .ref h0), (1, .int p1)]) (fun (i_1, σ_2, ρ_3) => (12 - i_1.toInt).toNat) ?_ ⟨0, σ, ρ⟩ ⟨(by decide), (by decide), hB, hS, lv_sub hl [0, 1, 2] rfl⟩
  rintro ⟨i_1, σ_2, ρ_3⟩ H locs ls ⟨li_1, ui_1, hB, hS, hl⟩ ih_4
  have rbg := FR.row hB.2.2 tbg (fun j => by simp)
  have rbk := FR.row hB.2.2 tbk (fun j => by simp)
  have rbc := FR.row hB.2.2 tbc (fun j => by simp)
  refine lv_iload_n hx hb dX12_summedBy_2 rfl (lv_at hl 0 rfl) ?_
  refine lv_aload_n hx hb dX12_summedBy_3 rfl (lv_at hl 1 rfl) ?_
  refine t_gk hx hb hts hown hK hB mh0 th0 fq_12_6 hbc mw_5_222 dX12_summedBy_4 ?_
  refine lv_iload_n hx hb dX12_summedBy_7 rfl (lv_at hl 2 rfl) ?_
  refine t_ai hx hb hK hB mbc tbc ai_65 (fun _ => rfl) (i_in (by omega) (by omega)) dX12_summedBy_8 (fun x_5 ex_5 lx_5 ux_5 => ?_)
  have cx_5 := congrArg Int32.toInt ex_5
  refine lv_icmp_ge (tgt := 84) hx hb dX12_summedBy_9 (by decide) (fun c_6 => ?_) (fun c_6 => ?_)
  · skip
    have uc_6 := j_le c_6
    refine lv_lconst (v := 0) hx hb dX12_summedBy_84 (by decide) ?_
    exact W.lret (v := 0) hx hb hr (fun t ht hW => ⟨⟨0, (σ_2, ρ_3), rfl, ⟨hB.2.1, hB.2.2, trivial⟩, (show TP D cA L T r σ_2 ρ_3 t.heap from by rw [ht]; exact hB.1)⟩, hS.F ht⟩) hS.2.2 dX12_summedBy_85
  · skip
    have uc_6 := j_nle c_6
    refine lv_bipush (v := 48) hx hb dX12_summedBy_12 (by decide) ?_
    refine lv_iload_n hx hb dX12_summedBy_14 rfl (lv_at hl 2 rfl) ?_
    refine lv_imul hx hb dX12_summedBy_15 ?_
    refine lv_topi (fun x_7 ex_7 => ?_)
    have vx_7 := b_mul (by decide : (48 : Int32).toInt = 48) (rfl : p1.toInt = _) ex_7 (by omega) (by omega)
    refine lv_iconst (v := 4) hx hb dX12_summedBy_16 (by decide) ?_
    refine lv_iload_n hx hb dX12_summedBy_17 rfl (lv_at hl 0 rfl) ?_
    refine lv_imul hx hb dX12_summedBy_18 ?_
    refine lv_topi (fun x_8 ex_8 => ?_)
    have vx_8 := b_mul (by decide : (4 : Int32).toInt = 4) (rfl : i_1.toInt = _) ex_8 (by omega) (by omega)
    refine lv_iadd hx hb dX12_summedBy_19 ?_
    refine lv_topi (fun x_9 ex_9 => ?_)
    have vx_9 := b_add (rfl : x_7.toInt = _) (rfl : x_8.toInt = _) ex_9 (by omega) (by omega)
    refine lv_istore_n (lv' := [(3, .int x_9), (2, .int i_1), (0, .ref h0), (1, .int p1)]) hx hb dX12_summedBy_20 rfl hl (by decide) rfl (fun ls hl => ?_)
    have hnn : p1.toNatClampNeg = p1.toInt.toNat := rfl
    have hcw := w2 i_1.toInt.toNat (by have z := ex_5.symm; rw [rbc] at z; have z2 := congrArg Int32.toInt z; omega)
    obtain ⟨q, hq⟩ : ∃ q : Nat, q = 48 * p1.toInt.toNat + 4 * i_1.toInt.toNat := ⟨_, rfl⟩
    unfold CW at hcw; rw [← hq] at hcw; rw [← rbk, ← rbg] at hcw
    have hqa : x_9.toNatClampNeg = q := by have hn : x_9.toNatClampNeg = x_9.toInt.toNat := rfl; omega
    refine lv_aload_n hx hb dX12_summedBy_21 rfl (lv_at hl 2 rfl) ?_
    refine t_gk hx hb hts hown hK hB mh0 th0 fq_12_5 hbk mw_5_221 dX12_summedBy_22 ?_
    refine lv_iload_n hx hb dX12_summedBy_25 rfl (lv_at hl 0 rfl) ?_
    refine lv_iconst (v := 2) hx hb dX12_summedBy_26 (by decide) ?_
    refine lv_iadd hx hb dX12_summedBy_27 ?_
    refine lv_topi (fun x_10 ex_10 => ?_)
    have vx_10 := b_add (rfl : x_9.toInt = _) (by decide : (2 : Int32).toInt = 2) ex_10 (by omega) (by omega)
    refine t_ai hx hb hK hB mbk tbk ai_64 (fun _ => rfl) (i_in (by omega) (by omega)) dX12_summedBy_28 (fun x_11 ex_11 lx_11 ux_11 => ?_)
    have cx_11 := congrArg Int32.toInt ex_11
    refine lv_if_lt (tgt := 58) hx hb dX12_summedBy_29 (by decide) (fun c_12 => ?_) (fun c_12 => ?_)
    · skip
      have uc_12 := i_lt (n := 0) (by decide) c_12
      refine lv_aload_n hx hb dX12_summedBy_58 rfl (lv_at hl 2 rfl) ?_
      refine lv_iload_n hx hb dX12_summedBy_59 rfl (lv_at hl 3 rfl) ?_
      refine lv_aload_n hx hb dX12_summedBy_60 rfl (lv_at hl 2 rfl) ?_
      refine t_gk hx hb hts hown hK hB mh0 th0 fq_12_5 hbk mw_5_221 dX12_summedBy_61 ?_
      refine lv_iload_n hx hb dX12_summedBy_64 rfl (lv_at hl 0 rfl) ?_
      refine t_ai hx hb hK hB mbk tbk ai_64 (fun _ => rfl) (i_in (by omega) (by omega)) dX12_summedBy_65 (fun x_13 ex_13 lx_13 ux_13 => ?_)
      have cx_13 := congrArg Int32.toInt ex_13
      refine lv_aload_n hx hb dX12_summedBy_66 rfl (lv_at hl 2 rfl) ?_
      refine t_gk hx hb hts hown hK hB mh0 th0 fq_12_5 hbk mw_5_221 dX12_summedBy_67 ?_
      refine lv_iload_n hx hb dX12_summedBy_70 rfl (lv_at hl 0 rfl) ?_
      refine lv_iconst (v := 1) hx hb dX12_summedBy_71 (by decide) ?_
      refine lv_iadd hx hb dX12_summedBy_72 ?_
      refine lv_topi (fun x_14 ex_14 => ?_)
      have vx_14 := b_add (rfl : x_9.toInt = _) (by decide : (1 : Int32).toInt = 1) ex_14 (by omega) (by omega)
      refine t_ai hx hb hK hB mbk tbk ai_64 (fun _ => rfl) (i_in (by omega) (by omega)) dX12_summedBy_73 (fun x_15 ex_15 lx_15 ux_15 => ?_)
      have cx_15 := congrArg Int32.toInt ex_15
      have kv0 : (σ_2 bk (q)).toInt = x_13.toInt := by rw [ex_13, show x_9.toNatClampNeg = q from (by have hn : x_9.toNatClampNeg = x_9.toInt.toNat := rfl; omega)]
      have kv1 : (σ_2 bk (q + 1)).toInt = x_15.toInt := by rw [ex_15, show x_14.toNatClampNeg = q + 1 from (by have hn : x_14.toNatClampNeg = x_14.toInt.toNat := rfl; omega)]
      obtain ⟨sa, sb1, sc1, sd1⟩ := hcw.1
      rw [kv0, kv1] at sd1
      refine t_cl (va_runV (As := [.int p1, .int x_13, .int x_15]) (rest := []) ⟨hx, hb, hml, hown, hts⟩ (cz_X12_reckons l D cA L T r hG hLA.1 σ_2 ρ_3 hB.2.1 _ h0 mh0 th0 p1 x_13 x_15 bg hbg mbg tbg (by first | omega | decide) (by first | omega | decide) (by first | omega | decide) (by first | omega | decide) (by first | omega | decide) sd1) (cV hts mv_X12_reckons mw_7_147 rfl rfl ⟨Nat.le_of_ble_eq_true rfl, Nat.le_of_ble_eq_true rfl⟩) (pV hB.1 hK hN mh0 th0 (show shp cA 12 _ _ _ = .inr (12, Fs12 _ _ _) from rfl) rfl) rfl rfl hl.1 rfl (lv_room (Nat.le_of_ble_eq_true rfl)) dX12_summedBy_74 ⟨Nat.le_of_ble_eq_true rfl, Nat.le_of_ble_eq_true rfl⟩) hLA hA hB hS (by decide) (fun y_18 σ_16 ρ_17 H locs hB fσ_16 pσ_16 hS => ?_)
      exact W.lret (v := y_18) hx hb hr (fun t ht hW => ⟨⟨y_18, (σ_16, ρ_17), rfl, ⟨hB.2.1, hB.2.2, trivial⟩, (show TP D cA L T r σ_16 ρ_17 t.heap from by rw [ht]; exact hB.1)⟩, hS.F ht⟩) hS.2.2 dX12_summedBy_77
    · skip
      have uc_12 := i_nlt (n := 0) (by decide) c_12
      refine lv_aload_n hx hb dX12_summedBy_32 rfl (lv_at hl 2 rfl) ?_
      refine lv_iload_n hx hb dX12_summedBy_33 rfl (lv_at hl 3 rfl) ?_
      refine lv_aload_n hx hb dX12_summedBy_34 rfl (lv_at hl 2 rfl) ?_
      refine t_gk hx hb hts hown hK hB mh0 th0 fq_12_5 hbk mw_5_221 dX12_summedBy_35 ?_
      refine lv_iload_n hx hb dX12_summedBy_38 rfl (lv_at hl 0 rfl) ?_
      refine lv_iconst (v := 2) hx hb dX12_summedBy_39 (by decide) ?_
      refine lv_iadd hx hb dX12_summedBy_40 ?_
      refine lv_topi (fun x_19 ex_19 => ?_)
      have vx_19 := b_add (rfl : x_9.toInt = _) (by decide : (2 : Int32).toInt = 2) ex_19 (by omega) (by omega)
      refine t_ai hx hb hK hB mbk tbk ai_64 (fun _ => rfl) (i_in (by omega) (by omega)) dX12_summedBy_41 (fun x_20 ex_20 lx_20 ux_20 => ?_)
      have cx_20 := congrArg Int32.toInt ex_20
      refine lv_aload_n hx hb dX12_summedBy_42 rfl (lv_at hl 2 rfl) ?_
      refine t_gk hx hb hts hown hK hB mh0 th0 fq_12_5 hbk mw_5_221 dX12_summedBy_43 ?_
      refine lv_iload_n hx hb dX12_summedBy_46 rfl (lv_at hl 0 rfl) ?_
      refine lv_iconst (v := 3) hx hb dX12_summedBy_47 (by decide) ?_
      refine lv_iadd hx hb dX12_summedBy_48 ?_
      refine lv_topi (fun x_21 ex_21 => ?_)
      have vx_21 := b_add (rfl : x_9.toInt = _) (by decide : (3 : Int32).toInt = 3) ex_21 (by omega) (by omega)
      refine t_ai hx hb hK hB mbk tbk ai_64 (fun _ => rfl) (i_in (by omega) (by omega)) dX12_summedBy_49 (fun x_22 ex_22 lx_22 ux_22 => ?_)
      have cx_22 := congrArg Int32.toInt ex_22
      have kv9 : (σ_2 bk (q + 2)).toInt = x_11.toInt := by rw [ex_11, show x_10.toNatClampNeg = q + 2 from (by have hn : x_10.toNatClampNeg = x_10.toInt.toNat := rfl; omega)]
      have kv2 : (σ_2 bk (q + 2)).toInt = x_20.toInt := by rw [ex_20, show x_19.toNatClampNeg = q + 2 from (by have hn : x_19.toNatClampNeg = x_19.toInt.toNat := rfl; omega)]
      have kv3 : (σ_2 bk (q + 3)).toInt = x_22.toInt := by rw [ex_22, show x_21.toNatClampNeg = q + 3 from (by have hn : x_21.toNatClampNeg = x_21.toInt.toNat := rfl; omega)]
      obtain ⟨sa, sb1, sc1, sd1⟩ := (hcw.2.resolve_left (by omega))
      have kw : q + 2 + 1 = q + 3 := rfl
      rw [kw] at sb1 sc1 sd1
      rw [kv2, kv3] at sd1
      refine t_cl (va_runV (As := [.int p1, .int x_20, .int x_22]) (rest := []) ⟨hx, hb, hml, hown, hts⟩ (cz_X12_reckons l D cA L T r hG hLA.1 σ_2 ρ_3 hB.2.1 _ h0 mh0 th0 p1 x_20 x_22 bg hbg mbg tbg (by first | omega | decide) (by first | omega | decide) (by first | omega | decide) (by first | omega | decide) (by first | omega | decide) sd1) (cV hts mv_X12_reckons mw_7_147 rfl rfl ⟨Nat.le_of_ble_eq_true rfl, Nat.le_of_ble_eq_true rfl⟩) (pV hB.1 hK hN mh0 th0 (show shp cA 12 _ _ _ = .inr (12, Fs12 _ _ _) from rfl) rfl) rfl rfl hl.1 rfl (lv_room (Nat.le_of_ble_eq_true rfl)) dX12_summedBy_50 ⟨Nat.le_of_ble_eq_true rfl, Nat.le_of_ble_eq_true rfl⟩) hLA hA hB hS (by decide) (fun y_25 σ_23 ρ_24 H locs hB fσ_23 pσ_23 hS => ?_)
      refine lv_lconst (v := 1) hx hb dX12_summedBy_53 (by decide) ?_
      refine W.lcmp hx hb dX12_summedBy_54 ?_
      refine lv_if_ne (tgt := 78) hx hb dX12_summedBy_55 (by decide) (fun c_26 => ?_) (fun c_26 => ?_)
      · skip
        have uc_26 := mt (lg_cmp_eq _ _).mpr c_26
        obtain ⟨x_27, ex_27⟩ : ∃ y : Int32, y = i_1 + 1 := ⟨_, rfl⟩
        have vx_27 := b_add (rfl : i_1.toInt = _) (by decide : (1 : Int32).toInt = 1) ex_27 (by omega) (by omega)
        refine lv_iinc (v := x_27) (lv' := [(2, .int x_27), (3, .int x_9), (0, .ref h0), (1, .int p1)]) hx hb dX12_summedBy_78 hl (k := 1) rfl (by rw [ex_27]; rfl) (by decide) rfl (fun ls hl => ?_)
        refine lv_goto (tgt := 2) hx hb dX12_summedBy_81 (by decide) ?_
        exact ih_4 ⟨x_27, σ_23, ρ_24⟩ _ _ _ ⟨(by omega), (by omega), hB, hS, lv_sub hl [0, 2, 3] rfl⟩ (by show (12 - x_27.toInt).toNat < (12 - i_1.toInt).toNat; omega)
      · skip
        have uc_26 := (lg_cmp_eq _ _).mp c_26
        have k_28 := FR.row fσ_23 tbk (fun j => by simp)
        have rk2 : σ_23 bk = σ_2 bk := (k_28)
        have k_29 := FR.row fσ_23 tbg (fun j => by simp)
        have rg2 : σ_23 bg = σ_2 bg := (k_29)
        rw [← rk2, ← rg2] at hcw
        refine lv_aload_n hx hb dX12_summedBy_58 rfl (lv_at hl 2 rfl) ?_
        refine lv_iload_n hx hb dX12_summedBy_59 rfl (lv_at hl 3 rfl) ?_
        refine lv_aload_n hx hb dX12_summedBy_60 rfl (lv_at hl 2 rfl) ?_
        refine t_gk hx hb hts hown hK hB mh0 th0 fq_12_5 hbk mw_5_221 dX12_summedBy_61 ?_
        refine lv_iload_n hx hb dX12_summedBy_64 rfl (lv_at hl 0 rfl) ?_
        refine t_ai hx hb hK hB mbk tbk ai_64 (fun _ => rfl) (i_in (by omega) (by omega)) dX12_summedBy_65 (fun x_30 ex_30 lx_30 ux_30 => ?_)
        have cx_30 := congrArg Int32.toInt ex_30
        refine lv_aload_n hx hb dX12_summedBy_66 rfl (lv_at hl 2 rfl) ?_
        refine t_gk hx hb hts hown hK hB mh0 th0 fq_12_5 hbk mw_5_221 dX12_summedBy_67 ?_
        refine lv_iload_n hx hb dX12_summedBy_70 rfl (lv_at hl 0 rfl) ?_
        refine lv_iconst (v := 1) hx hb dX12_summedBy_71 (by decide) ?_
        refine lv_iadd hx hb dX12_summedBy_72 ?_
        refine lv_topi (fun x_31 ex_31 => ?_)
        have vx_31 := b_add (rfl : x_9.toInt = _) (by decide : (1 : Int32).toInt = 1) ex_31 (by omega) (by omega)
        refine t_ai hx hb hK hB mbk tbk ai_64 (fun _ => rfl) (i_in (by omega) (by omega)) dX12_summedBy_73 (fun x_32 ex_32 lx_32 ux_32 => ?_)
        have cx_32 := congrArg Int32.toInt ex_32
        have kv0 : (σ_23 bk (q)).toInt = x_30.toInt := by rw [ex_30, show x_9.toNatClampNeg = q from (by have hn : x_9.toNatClampNeg = x_9.toInt.toNat := rfl; omega)]
        have kv1 : (σ_23 bk (q + 1)).toInt = x_32.toInt := by rw [ex_32, show x_31.toNatClampNeg = q + 1 from (by have hn : x_31.toNatClampNeg = x_31.toInt.toNat := rfl; omega)]
        obtain ⟨sa, sb1, sc1, sd1⟩ := hcw.1
        rw [kv0, kv1] at sd1
        refine t_cl (va_runV (As := [.int p1, .int x_30, .int x_32]) (rest := []) ⟨hx, hb, hml, hown, hts⟩ (cz_X12_reckons l D cA L T r hG hLA.1 σ_23 ρ_24 hB.2.1 _ h0 mh0 th0 p1 x_30 x_32 bg hbg mbg tbg (by first | omega | decide) (by first | omega | decide) (by first | omega | decide) (by first | omega | decide) (by first | omega | decide) sd1) (cV hts mv_X12_reckons mw_7_147 rfl rfl ⟨Nat.le_of_ble_eq_true rfl, Nat.le_of_ble_eq_true rfl⟩) (pV hB.1 hK hN mh0 th0 (show shp cA 12 _ _ _ = .inr (12, Fs12 _ _ _) from rfl) rfl) rfl rfl hl.1 rfl (lv_room (Nat.le_of_ble_eq_true rfl)) dX12_summedBy_74 ⟨Nat.le_of_ble_eq_true rfl, Nat.le_of_ble_eq_true rfl⟩) hLA hA hB hS (by decide) (fun y_35 σ_33 ρ_34 H locs hB fσ_33 pσ_33 hS => ?_)
        exact W.lret (v := y_35) hx hb hr (fun t ht hW => ⟨⟨y_35, (σ_33, ρ_34), rfl, ⟨hB.2.1, hB.2.2, trivial⟩, (show TP D cA L T r σ_33 ρ_34 t.heap from by rw [ht]; exact hB.1)⟩, hS.F ht⟩) hS.2.2 dX12_summedBy_77
