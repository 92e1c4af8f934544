theorem up2_if {α : Type} (f : Nat → Nat → α) (a j k : Nat) (x : α) : up2 f a j x a k = if k = j then x else f a k := by
  by_cases h : k = j
  · subst h; rw [up2_same, if_pos rfl]
  · rw [up2_nej _ _ h, if_neg h]
theorem mw_5_219 : (.fieldLink RX12 13 "HillBendsModel" "sign" "[I" : Cond) ∈ wsA := wsA_t (List.mem_append_right _ (List.mem_append_right _ (List.mem_append_right _ (List.mem_append_right _ (List.mem_append_left _ (List.mem_of_getElem? (l := tables_1_5) (i := 219) rfl)))))) rfl
theorem mw_5_227 : (.fieldLink RX12 154 "HillBendsModel" "text" "I" : Cond) ∈ wsA := wsA_t (List.mem_append_right _ (List.mem_append_right _ (List.mem_append_right _ (List.mem_append_right _ (List.mem_append_left _ (List.mem_of_getElem? (l := tables_1_5) (i := 227) rfl)))))) rfl
theorem mw_5_220 : (.fieldLink RX12 17 "HillBendsModel" "length" "[I" : Cond) ∈ wsA := wsA_t (List.mem_append_right _ (List.mem_append_right _ (List.mem_append_right _ (List.mem_append_right _ (List.mem_append_left _ (List.mem_of_getElem? (l := tables_1_5) (i := 220) rfl)))))) rfl
theorem dX12_puts_0 : decode cX12_puts 0 = .ok (.aload_n 0, 1) := by decide +kernel
theorem dX12_puts_1 : decode cX12_puts 1 = .ok (.getfield 13, 3) := by decide +kernel
theorem dX12_puts_4 : decode cX12_puts 4 = .ok (.sipush 400, 3) := by decide +kernel
theorem dX12_puts_7 : decode cX12_puts 7 = .ok (.aload_n 0, 1) := by decide +kernel
theorem dX12_puts_8 : decode cX12_puts 8 = .ok (.getfield 154, 3) := by decide +kernel
theorem dX12_puts_11 : decode cX12_puts 11 = .ok (.imul, 1) := by decide +kernel
theorem dX12_puts_12 : decode cX12_puts 12 = .ok (.aload_n 0, 1) := by decide +kernel
theorem dX12_puts_13 : decode cX12_puts 13 = .ok (.getfield 17, 3) := by decide +kernel
theorem dX12_puts_16 : decode cX12_puts 16 = .ok (.aload_n 0, 1) := by decide +kernel
theorem dX12_puts_17 : decode cX12_puts 17 = .ok (.getfield 154, 3) := by decide +kernel
theorem dX12_puts_20 : decode cX12_puts 20 = .ok (.iaload, 1) := by decide +kernel
theorem dX12_puts_21 : decode cX12_puts 21 = .ok (.iadd, 1) := by decide +kernel
theorem dX12_puts_22 : decode cX12_puts 22 = .ok (.iload_n 1, 1) := by decide +kernel
theorem dX12_puts_23 : decode cX12_puts 23 = .ok (.bipush 16, 2) := by decide +kernel
theorem dX12_puts_25 : decode cX12_puts 25 = .ok (.iload_n 2, 1) := by decide +kernel
theorem dX12_puts_26 : decode cX12_puts 26 = .ok (.imul, 1) := by decide +kernel
theorem dX12_puts_27 : decode cX12_puts 27 = .ok (.iadd, 1) := by decide +kernel
theorem dX12_puts_28 : decode cX12_puts 28 = .ok (.iastore, 1) := by decide +kernel
theorem dX12_puts_29 : decode cX12_puts 29 = .ok (.aload_n 0, 1) := by decide +kernel
theorem dX12_puts_30 : decode cX12_puts 30 = .ok (.getfield 17, 3) := by decide +kernel
theorem dX12_puts_33 : decode cX12_puts 33 = .ok (.aload_n 0, 1) := by decide +kernel
theorem dX12_puts_34 : decode cX12_puts 34 = .ok (.getfield 154, 3) := by decide +kernel
theorem dX12_puts_37 : decode cX12_puts 37 = .ok (.dup2, 1) := by decide +kernel
theorem dX12_puts_38 : decode cX12_puts 38 = .ok (.iaload, 1) := by decide +kernel
theorem dX12_puts_39 : decode cX12_puts 39 = .ok (.iconst 1, 1) := by decide +kernel
theorem dX12_puts_40 : decode cX12_puts 40 = .ok (.iadd, 1) := by decide +kernel
theorem dX12_puts_41 : decode cX12_puts 41 = .ok (.iastore, 1) := by decide +kernel
theorem dX12_puts_42 : decode cX12_puts 42 = .ok (.return_, 1) := by decide +kernel
set_option maxHeartbeats 4000000 in
set_option maxRecDepth 100000 in
theorem cz_X12_puts (l : Launch) (D : va_G) (cA : Nat → ClassId) (L : List Nat) (T : Nat → Nat) (r : Rg) (hG : GR L T r) (hL : L.Nodup) (σ : Sg) (ρ : Lg) (hW : WT L ry T σ) (sz : Nat) (h0 : Nat) (mh0 : h0 ∈ L) (th0 : T h0 = 12) (p1 : Int32) (p2 : Int32) (bg : Nat) (hbg : r h0 3 = some bg) (mbg : bg ∈ L) (tbg : T bg = 62) (bl : Nat) (hbl : r h0 4 = some bl) (mbl : bl ∈ L) (tbl : T bl = 63) (tx : Int32) (k0 : σ h0 11 = tx) (w0 : 0 ≤ tx.toInt) (w1 : tx.toInt ≤ 5) (w2 : (σ bl tx.toNatClampNeg).toInt ≤ 399) : Met l yX12_puts (.code yX12_puts cX12_puts 3 none :: wsA) ({ frames := 0, cells := 0, slots := 0, locals := 0 }) (PR D cA L T r σ ρ sz [.ref h0, .int p1, .int p2]) (QV D cA L T r ry [(62, 1000), (63, 1000)] σ sz (fun σ1 => (PU σ σ1 bg bl tx (p1 + 16 * p2)))) 0 0 (dm L sz) := by
  refine Met.ofW (cc := cX12_puts) (maxL := 3) (ret := none) (by decide) rfl ?_
  intro p e s m args below meth c s₁ B hml hv
  obtain ⟨rfl, hsz, hP, hK, hN⟩ := hv
  have hx := B.exec
  have hb := B.bytes
  have hr := B.returns
  have hts : ∀ w ∈ wsA, w.before _ s = true := fun w h => atoms_spec (ws := .code yX12_puts cX12_puts 3 none :: wsA) B.pre w (List.mem_cons_of_mem _ h)
  have hown : s.vm.findClass RX12 = some m.cls := findClass_of_methodNamed B.named
  subst hsz
  have hLA : LA (dm L s.heap.size) L := ⟨hL, fun a h => Or.inl h⟩
  have hA : ∀ q : Nat, s.heap.size ≤ q → dm L s.heap.size q := fun q h => Or.inr h
  have hS : va_S (dm L s.heap.size) s.heap s.heap [] := va_S.rf
  have hB : TS D cA L T r ry [(62, 1000), (63, 1000)] σ σ ρ s.heap := ⟨hP, hW, FR.rf⟩
  have hl := lv_entry ([.ref h0, .int p1, .int p2]) (n := 3) (Nat.le_of_ble_eq_true rfl)
  rw [lg_entry_eq]
  generalize (lg_sl ([.ref h0, .int p1, .int p2]) ++ List.replicate (3 - (lg_sl ([.ref h0, .int p1, .int p2])).length) Slot.unset).toArray = ls at hl ⊢
  have hl : lv_has ls 3 [(0, .ref h0), (1, .int p1), (2, .int p2)] := hl
  have w_1 : 0 ≤ (σ bl tx.toNatClampNeg).toInt ∧ (σ bl tx.toNatClampNeg).toInt ≤ 400 := by have z := hB.2.1 bl mbl tx.toNatClampNeg; rw [tbl] at z; exact z
  refine lv_aload_n hx hb dX12_puts_0 rfl (lv_at hl 0 rfl) ?_
  refine t_gk hx hb hts hown hK hB mh0 th0 fq_12_3 hbg mw_5_219 dX12_puts_1 ?_
  refine lv_sipush (v := 400) hx hb dX12_puts_4 (by decide) ?_
  refine lv_aload_n hx hb dX12_puts_7 rfl (lv_at hl 0 rfl) ?_
  refine t_gv hx hb hts hown hK hB mh0 th0 fi_12_11 k0 mw_5_227 dX12_puts_8 ?_
  refine lv_imul hx hb dX12_puts_11 ?_
  refine lv_topi (fun x_2 ex_2 => ?_)
  have vx_2 := b_mul (by decide : (400 : Int32).toInt = 400) (rfl : tx.toInt = _) ex_2 (by omega) (by omega)
  refine lv_aload_n hx hb dX12_puts_12 rfl (lv_at hl 0 rfl) ?_
  refine t_gk hx hb hts hown hK hB mh0 th0 fq_12_4 hbl mw_5_220 dX12_puts_13 ?_
  refine lv_aload_n hx hb dX12_puts_16 rfl (lv_at hl 0 rfl) ?_
  refine t_gv hx hb hts hown hK hB mh0 th0 fi_12_11 k0 mw_5_227 dX12_puts_17 ?_
  refine t_ai hx hb hK hB mbl tbl ai_63 (fun _ => rfl) (i_in (by omega) (by omega)) dX12_puts_20 (fun x_3 ex_3 lx_3 ux_3 => ?_)
  have qx_3 : x_3 = (σ bl tx.toNatClampNeg) := ex_3.trans rfl
  have qx_3 := qx_3.symm
  subst qx_3
  refine lv_iadd hx hb dX12_puts_21 ?_
  refine lv_topi (fun x_4 ex_4 => ?_)
  have vx_4 := b_add (rfl : x_2.toInt = _) (rfl : (σ bl tx.toNatClampNeg).toInt = _) ex_4 (by omega) (by omega)
  refine lv_iload_n hx hb dX12_puts_22 rfl (lv_at hl 1 rfl) ?_
  refine lv_bipush (v := 16) hx hb dX12_puts_23 (by decide) ?_
  refine lv_iload_n hx hb dX12_puts_25 rfl (lv_at hl 2 rfl) ?_
  refine lv_imul hx hb dX12_puts_26 ?_
  refine lv_topi (fun x_5 ex_5 => ?_)
  try have vx_5 := b_mul (by decide : (16 : Int32).toInt = 16) (rfl : p2.toInt = _) ex_5 (by omega) (by omega)
  refine lv_iadd hx hb dX12_puts_27 ?_
  refine lv_topi (fun x_6 ex_6 => ?_)
  try have vx_6 := b_add (rfl : p1.toInt = _) (rfl : x_5.toInt = _) ex_6 (by omega) (by omega)
  refine t_si hx hb hK hLA hB hS mbg tbg ai_62 (i_in (by omega) (by omega)) (i_lo _) (i_hi _) (Or.inr (by decide)) dX12_puts_28 (fun H locs σ_7 eσ_7 hB hS => ?_)
  have k_8 : σ_7 bg x_4.toNatClampNeg = x_6 := by rw [eσ_7]; exact up2_same _ _ _ _
  refine lv_aload_n hx hb dX12_puts_29 rfl (lv_at hl 0 rfl) ?_
  refine t_gk hx hb hts hown hK hB mh0 th0 fq_12_4 hbl mw_5_220 dX12_puts_30 ?_
  refine lv_aload_n hx hb dX12_puts_33 rfl (lv_at hl 0 rfl) ?_
  have k_9 : σ_7 h0 11 = tx := by rw [eσ_7, up2_nea _ _ (tg_ne th0 tbg (by decide))]; exact k0
  refine t_gv hx hb hts hown hK hB mh0 th0 fi_12_11 k_9 mw_5_227 dX12_puts_34 ?_
  refine lv_dup2_11 hx hb dX12_puts_37 rfl rfl ?_
  have k_10 : σ_7 bl tx.toNatClampNeg = (σ bl tx.toNatClampNeg) := by rw [eσ_7, up2_nea _ _ (tg_ne tbl tbg (by decide))]
  refine t_ai hx hb hK hB mbl tbl ai_63 (fun _ => rfl) (i_in (by omega) (by omega)) dX12_puts_38 (fun x_11 ex_11 lx_11 ux_11 => ?_)
  have qx_11 : x_11 = (σ bl tx.toNatClampNeg) := ex_11.trans k_10
  have qx_11 := qx_11.symm
  subst qx_11
  refine lv_iconst (v := 1) hx hb dX12_puts_39 (by decide) ?_
  refine lv_iadd hx hb dX12_puts_40 ?_
  refine lv_topi (fun x_12 ex_12 => ?_)
  have vx_12 := b_add (rfl : (σ bl tx.toNatClampNeg).toInt = _) (by decide : (1 : Int32).toInt = 1) ex_12 (by omega) (by omega)
  refine t_si hx hb hK hLA hB hS mbl tbl ai_63 (i_in (by omega) (by omega)) (by show 0 ≤ _; (first | omega | (subst_vars; omega))) (by show _ ≤ 400; (first | omega | (subst_vars; omega))) (Or.inr (by decide)) dX12_puts_41 (fun H locs σ_13 eσ_13 hB hS => ?_)
  have k_14 : σ_13 bl tx.toNatClampNeg = x_12 := by rw [eσ_13]; exact up2_same _ _ _ _
  have hn0 : x_4.toNatClampNeg = ee (σ bl) tx := by have hn : x_4.toNatClampNeg = x_4.toInt.toNat := rfl; unfold ee; omega
  have hr0 : σ_13 bg = σ_7 bg := by rw [eσ_13]; exact up2_row _ _ (tg_ne tbg tbl (by decide))
  exact W.vret hx hb hr (fun t ht hW => ⟨⟨(σ_13, ρ), rfl, ⟨hB.2.1, hB.2.2, (show PU σ σ_13 bg bl tx (p1 + 16 * p2) from ⟨by rw [k_14]; omega, fun j => by rw [hr0, eσ_7, up2_if, hn0, ex_6, ex_5]⟩)⟩, (show TP D cA L T r σ_13 ρ t.heap from by rw [ht]; exact hB.1)⟩, hS.F ht⟩) hS.2.2 dX12_puts_42
theorem mw_6_239 : (.instanceMethod yX12_wordHere : Cond) ∈ wsA := wsA_t (List.mem_append_right _ (List.mem_append_right _ (List.mem_append_right _ (List.mem_append_right _ (List.mem_append_right _ (List.mem_append_left _ (List.mem_of_getElem? (l := tables_1_6) (i := 239) rfl))))))) rfl
theorem mp_5_4 : (.selects RX12 yX12_wordHere yX12_wordHere : Cond) ∈ wsA := wsA_p (q := (yX12_wordHere, 44)) (List.mem_append_right _ (List.mem_append_right _ (List.mem_append_right _ (List.mem_append_right _ (List.mem_append_left _ (List.mem_of_getElem? (l := lw_privs_5) (i := 4) rfl))))))
theorem mw_7_0 : (.code yX12_wordHere cX12_wordHere 1 (some .int) : Cond) ∈ wsA := wsA_t (List.mem_append_right _ (List.mem_append_right _ (List.mem_append_right _ (List.mem_append_right _ (List.mem_append_right _ (List.mem_append_right _ (List.mem_append_left _ (List.mem_of_getElem? (l := tables_1_7) (i := 0) rfl)))))))) rfl
theorem mw_6_237 : (.methodLink RX12 181 yX12_wordHere : Cond) ∈ wsA := wsA_t (List.mem_append_right _ (List.mem_append_right _ (List.mem_append_right _ (List.mem_append_right _ (List.mem_append_right _ (List.mem_append_left _ (List.mem_of_getElem? (l := tables_1_6) (i := 237) rfl))))))) rfl
theorem mw_6_231 : (.instanceMethod yX12_makes : Cond) ∈ wsA := wsA_t (List.mem_append_right _ (List.mem_append_right _ (List.mem_append_right _ (List.mem_append_right _ (List.mem_append_right _ (List.mem_append_left _ (List.mem_of_getElem? (l := tables_1_6) (i := 231) rfl))))))) rfl
theorem mp_5_2 : (.selects RX12 yX12_makes yX12_makes : Cond) ∈ wsA := wsA_p (q := (yX12_makes, 44)) (List.mem_append_right _ (List.mem_append_right _ (List.mem_append_right _ (List.mem_append_right _ (List.mem_append_left _ (List.mem_of_getElem? (l := lw_privs_5) (i := 2) rfl))))))
theorem mw_6_232 : (.code yX12_makes cX12_makes 2 (some .boolean) : Cond) ∈ wsA := wsA_t (List.mem_append_right _ (List.mem_append_right _ (List.mem_append_right _ (List.mem_append_right _ (List.mem_append_right _ (List.mem_append_left _ (List.mem_of_getElem? (l := tables_1_6) (i := 232) rfl))))))) rfl
theorem mw_6_229 : (.methodLink RX12 178 yX12_makes : Cond) ∈ wsA := wsA_t (List.mem_append_right _ (List.mem_append_right _ (List.mem_append_right _ (List.mem_append_right _ (List.mem_append_right _ (List.mem_append_left _ (List.mem_of_getElem? (l := tables_1_6) (i := 229) rfl))))))) rfl
theorem mw_6_235 : (.instanceMethod yX12_puts : Cond) ∈ wsA := wsA_t (List.mem_append_right _ (List.mem_append_right _ (List.mem_append_right _ (List.mem_append_right _ (List.mem_append_right _ (List.mem_append_left _ (List.mem_of_getElem? (l := tables_1_6) (i := 235) rfl))))))) rfl
theorem mp_5_3 : (.selects RX12 yX12_puts yX12_puts : Cond) ∈ wsA := wsA_p (q := (yX12_puts, 44)) (List.mem_append_right _ (List.mem_append_right _ (List.mem_append_right _ (List.mem_append_right _ (List.mem_append_left _ (List.mem_of_getElem? (l := lw_privs_5) (i := 3) rfl))))))
theorem mw_6_236 : (.code yX12_puts cX12_puts 3 none : Cond) ∈ wsA := wsA_t (List.mem_append_right _ (List.mem_append_right _ (List.mem_append_right _ (List.mem_append_right _ (List.mem_append_right _ (List.mem_append_left _ (List.mem_of_getElem? (l := tables_1_6) (i := 236) rfl))))))) rfl
theorem mw_6_233 : (.methodLink RX12 170 yX12_puts : Cond) ∈ wsA := wsA_t (List.mem_append_right _ (List.mem_append_right _ (List.mem_append_right _ (List.mem_append_right _ (List.mem_append_right _ (List.mem_append_left _ (List.mem_of_getElem? (l := tables_1_6) (i := 233) rfl))))))) rfl
theorem mw_6_228 : (.constant RX12 174 99999 : Cond) ∈ wsA := wsA_t (List.mem_append_right _ (List.mem_append_right _ (List.mem_append_right _ (List.mem_append_right _ (List.mem_append_right _ (List.mem_append_left _ (List.mem_of_getElem? (l := tables_1_6) (i := 228) rfl))))))) rfl
theorem mw_6_179 : (.instanceMethod yX12_numberHere : Cond) ∈ wsA := wsA_t (List.mem_append_right _ (List.mem_append_right _ (List.mem_append_right _ (List.mem_append_right _ (List.mem_append_right _ (List.mem_append_left _ (List.mem_of_getElem? (l := tables_1_6) (i := 179) rfl))))))) rfl
theorem mp_4_6 : (.selects RX12 yX12_numberHere yX12_numberHere : Cond) ∈ wsA := wsA_p (q := (yX12_numberHere, 44)) (List.mem_append_right _ (List.mem_append_right _ (List.mem_append_right _ (List.mem_append_left _ (List.mem_of_getElem? (l := lw_privs_4) (i := 6) rfl)))))
theorem mw_6_180 : (.code yX12_numberHere cX12_numberHere 5 (some .boolean) : Cond) ∈ wsA := wsA_t (List.mem_append_right _ (List.mem_append_right _ (List.mem_append_right _ (List.mem_append_right _ (List.mem_append_right _ (List.mem_append_left _ (List.mem_of_getElem? (l := tables_1_6) (i := 180) rfl))))))) rfl
theorem mw_6_177 : (.methodLink RX12 175 yX12_numberHere : Cond) ∈ wsA := wsA_t (List.mem_append_right _ (List.mem_append_right _ (List.mem_append_right _ (List.mem_append_right _ (List.mem_append_right _ (List.mem_append_left _ (List.mem_of_getElem? (l := tables_1_6) (i := 177) rfl))))))) rfl
theorem dX12_value_0 : decode cX12_value 0 = .ok (.aload_n 0, 1) := by decide +kernel
theorem dX12_value_1 : decode cX12_value 1 = .ok (.invokevirtual 105, 3) := by decide +kernel
theorem dX12_value_4 : decode cX12_value 4 = .ok (.pop, 1) := by decide +kernel
theorem dX12_value_5 : decode cX12_value 5 = .ok (.aload_n 0, 1) := by decide +kernel
theorem dX12_value_6 : decode cX12_value 6 = .ok (.getfield 102, 3) := by decide +kernel
theorem dX12_value_9 : decode cX12_value 9 = .ok (.istore_n 1, 1) := by decide +kernel
theorem dX12_value_10 : decode cX12_value 10 = .ok (.aload_n 0, 1) := by decide +kernel
theorem dX12_value_11 : decode cX12_value 11 = .ok (.aload_n 0, 1) := by decide +kernel
theorem dX12_value_12 : decode cX12_value 12 = .ok (.getfield 102, 3) := by decide +kernel
theorem dX12_value_15 : decode cX12_value 15 = .ok (.invokevirtual 120, 3) := by decide +kernel
theorem dX12_value_18 : decode cX12_value 18 = .ok (.ifCond .eq 34, 3) := by decide +kernel
theorem dX12_value_52 : decode cX12_value 52 = .ok (.aload_n 0, 1) := by decide +kernel
theorem dX12_value_53 : decode cX12_value 53 = .ok (.invokevirtual 181, 3) := by decide +kernel
theorem dX12_value_56 : decode cX12_value 56 = .ok (.istore_n 2, 1) := by decide +kernel
theorem dX12_value_57 : decode cX12_value 57 = .ok (.iload_n 2, 1) := by decide +kernel
theorem dX12_value_58 : decode cX12_value 58 = .ok (.ifCond .ge 10, 3) := by decide +kernel
theorem dX12_value_68 : decode cX12_value 68 = .ok (.aload_n 0, 1) := by decide +kernel
theorem dX12_value_69 : decode cX12_value 69 = .ok (.iload_n 1, 1) := by decide +kernel
theorem dX12_value_70 : decode cX12_value 70 = .ok (.invokevirtual 178, 3) := by decide +kernel
theorem dX12_value_73 : decode cX12_value 73 = .ok (.ifCond .ne 5, 3) := by decide +kernel
theorem dX12_value_78 : decode cX12_value 78 = .ok (.aload_n 0, 1) := by decide +kernel
theorem dX12_value_79 : decode cX12_value 79 = .ok (.invokevirtual 117, 3) := by decide +kernel
theorem dX12_value_82 : decode cX12_value 82 = .ok (.aload_n 0, 1) := by decide +kernel
theorem dX12_value_83 : decode cX12_value 83 = .ok (.iconst 1, 1) := by decide +kernel
theorem dX12_value_84 : decode cX12_value 84 = .ok (.iload_n 2, 1) := by decide +kernel
theorem dX12_value_85 : decode cX12_value 85 = .ok (.invokevirtual 170, 3) := by decide +kernel
theorem dX12_value_88 : decode cX12_value 88 = .ok (.iconst 1, 1) := by decide +kernel
theorem dX12_value_89 : decode cX12_value 89 = .ok (.ireturn, 1) := by decide +kernel
theorem dX12_value_76 : decode cX12_value 76 = .ok (.iconst 0, 1) := by decide +kernel
theorem dX12_value_77 : decode cX12_value 77 = .ok (.ireturn, 1) := by decide +kernel
theorem dX12_value_61 : decode cX12_value 61 = .ok (.aload_n 0, 1) := by decide +kernel
theorem dX12_value_62 : decode cX12_value 62 = .ok (.iconst 0, 1) := by decide +kernel
theorem dX12_value_63 : decode cX12_value 63 = .ok (.iload_n 1, 1) := by decide +kernel
theorem dX12_value_64 : decode cX12_value 64 = .ok (.invokevirtual 123, 3) := by decide +kernel
theorem dX12_value_67 : decode cX12_value 67 = .ok (.ireturn, 1) := by decide +kernel
theorem dX12_value_21 : decode cX12_value 21 = .ok (.aload_n 0, 1) := by decide +kernel
theorem dX12_value_22 : decode cX12_value 22 = .ok (.iconst 0, 1) := by decide +kernel
theorem dX12_value_23 : decode cX12_value 23 = .ok (.ldc 174, 2) := by decide +kernel
theorem dX12_value_25 : decode cX12_value 25 = .ok (.invokevirtual 175, 3) := by decide +kernel
theorem dX12_value_28 : decode cX12_value 28 = .ok (.ifCond .eq 11, 3) := by decide +kernel
theorem dX12_value_39 : decode cX12_value 39 = .ok (.iconst 0, 1) := by decide +kernel
theorem dX12_value_40 : decode cX12_value 40 = .ok (.ireturn, 1) := by decide +kernel
theorem dX12_value_31 : decode cX12_value 31 = .ok (.aload_n 0, 1) := by decide +kernel
theorem dX12_value_32 : decode cX12_value 32 = .ok (.iload_n 1, 1) := by decide +kernel
theorem dX12_value_33 : decode cX12_value 33 = .ok (.invokevirtual 178, 3) := by decide +kernel
theorem dX12_value_36 : decode cX12_value 36 = .ok (.ifCond .ne 5, 3) := by decide +kernel
theorem dX12_value_41 : decode cX12_value 41 = .ok (.aload_n 0, 1) := by decide +kernel
theorem dX12_value_42 : decode cX12_value 42 = .ok (.iconst 0, 1) := by decide +kernel
theorem dX12_value_43 : decode cX12_value 43 = .ok (.aload_n 0, 1) := by decide +kernel
theorem dX12_value_44 : decode cX12_value 44 = .ok (.getfield 127, 3) := by decide +kernel
theorem dX12_value_47 : decode cX12_value 47 = .ok (.invokevirtual 170, 3) := by decide +kernel
theorem dX12_value_50 : decode cX12_value 50 = .ok (.iconst 1, 1) := by decide +kernel
theorem dX12_value_51 : decode cX12_value 51 = .ok (.ireturn, 1) := by decide +kernel
theorem mv_X12_wordHere : MV RX12 yX12_wordHere cX12_wordHere 1 (some .int) 0 := ⟨mw_6_239, mp_5_4, mw_1_13, mw_7_0, ⟨rfl, by decide, by decide, by decide +kernel⟩⟩
theorem mv_X12_makes : MV RX12 yX12_makes cX12_makes 2 (some .boolean) 1 := ⟨mw_6_231, mp_5_2, mw_1_13, mw_6_232, ⟨rfl, by decide, by decide, by decide +kernel⟩⟩
theorem mv_X12_puts : MV RX12 yX12_puts cX12_puts 3 none 2 := ⟨mw_6_235, mp_5_3, mw_1_13, mw_6_236, ⟨rfl, by decide, by decide, by decide +kernel⟩⟩
theorem mv_X12_numberHere : MV RX12 yX12_numberHere cX12_numberHere 5 (some .boolean) 2 := ⟨mw_6_179, mp_4_6, mw_1_13, mw_6_180, ⟨rfl, by decide, by decide, by decide +kernel⟩⟩
set_option maxHeartbeats 4000000 in
set_option maxRecDepth 100000 in
theorem cz_X12_value (l : Launch) (D : va_G) (cA : Nat → ClassId) (L : List Nat) (T : Nat → Nat) (r : Rg) (hG : GR L T r) (hL : L.Nodup) (σ : Sg) (ρ : Lg) (hW : WT L ry T σ) (sz : Nat) (h0 : Nat) (mh0 : h0 ∈ L) (th0 : T h0 = 12) (bt : Nat) (hbt : r h0 0 = some bt) (mbt : bt ∈ L) (tbt : T bt = 61) (bg : Nat) (hbg : r h0 3 = some bg) (mbg : bg ∈ L) (tbg : T bg = 62) (bl : Nat) (hbl : r h0 4 = some bl) (mbl : bl ∈ L) (tbl : T bl = 63) (tx : Int32) (k0 : σ h0 11 = tx) (w0 : 0 ≤ tx.toInt) (w1 : tx.toInt ≤ 5) (w2 : (σ bl tx.toNatClampNeg).toInt ≤ (σ h0 8).toInt) : Met l yX12_value (.code yX12_value cX12_value 3 (some .boolean) :: wsA) ({ frames := 3, cells := 0, slots := 0, locals := 66 }) (PR D cA L T r σ ρ sz [.ref h0]) (QI D cA L T r ry [(12, 8), (12, 9), (12, 10), (12, 12), (62, 1000), (63, 1000)] σ sz (fun x σ1 => (0 ≤ x.toInt ∧ x.toInt ≤ 1) ∧ ((σ h0 8).toInt ≤ (σ1 h0 8).toInt) ∧ (EX (σ bg) (σ bl) (σ1 bg) (σ1 bl) tx) ∧ (x.toInt = 1 → RLx σ σ1 h0 bg bl tx 1 0))) 0 0 (dm L sz) := by
  refine Met.ofW (cc := cX12_value) (maxL := 3) (ret := (some .boolean)) (by decide) rfl ?_
  intro p e s m args below meth c s₁ B hml hv
  obtain ⟨rfl, hsz, hP, hK, hN⟩ := hv
  have hx := B.exec
  have hb := B.bytes
  have hr := B.returns
  have hts : ∀ w ∈ wsA, w.before _ s = true := fun w h => atoms_spec (ws := .code yX12_value cX12_value 3 (some .boolean) :: wsA) B.pre w (List.mem_cons_of_mem _ h)
  have hown : s.vm.findClass RX12 = some m.cls := findClass_of_methodNamed B.named
  subst hsz
  have hLA : LA (dm L s.heap.size) L := ⟨hL, fun a h => Or.inl h⟩
  have hA : ∀ q : Nat, s.heap.size ≤ q → dm L s.heap.size q := fun q h => Or.inr h
  have hS : va_S (dm L s.heap.size) s.heap s.heap [] := va_S.rf
  have hB : TS D cA L T r ry [(12, 8), (12, 9), (12, 10), (12, 12), (62, 1000), (63, 1000)] σ σ ρ s.heap := ⟨hP, hW, FR.rf⟩
  have hl := lv_entry ([.ref h0]) (n := 3) (Nat.le_of_ble_eq_true rfl)
  rw [lg_entry_eq]
  generalize (lg_sl ([.ref h0]) ++ List.replicate (3 - (lg_sl ([.ref h0])).length) Slot.unset).toArray = ls at hl ⊢
  have hl : lv_has ls 3 [(0, .ref h0)] := hl
  have w_1 : 0 ≤ (σ h0 8).toInt ∧ (σ h0 8).toInt ≤ 400 := by have z := hB.2.1 h0 mh0 8; rw [th0] at z; exact z
  have w_2 : 0 ≤ (σ h0 1).toInt ∧ (σ h0 1).toInt ≤ 400 := by have z := hB.2.1 h0 mh0 1; rw [th0] at z; exact z
  have w_3 : 0 ≤ (σ h0 12).toInt ∧ (σ h0 12).toInt ≤ 60 := by have z := hB.2.1 h0 mh0 12; rw [th0] at z; exact z
  have w_4 : 0 ≤ (σ bl tx.toNatClampNeg).toInt ∧ (σ bl tx.toNatClampNeg).toInt ≤ 400 := by have z := hB.2.1 bl mbl tx.toNatClampNeg; rw [tbl] at z; exact z
  have R0 : RLx σ σ h0 bg bl tx 0 0 := RLx.rf
  refine lv_aload_n hx hb dX12_value_0 rfl (lv_at hl 0 rfl) ?_
  refine t_ci (va_runV (As := []) (rest := []) ⟨hx, hb, hml, hown, hts⟩ (cz_X12_see l D cA L T r hG hLA.1 σ ρ hB.2.1 _ h0 mh0 th0 bt hbt mbt tbt) (cV hts mv_X12_see mw_6_134 rfl rfl ⟨Nat.le_of_ble_eq_true rfl, Nat.le_of_ble_eq_true rfl⟩) (pV hB.1 hK hN mh0 th0 (show shp cA 12 _ _ _ = .inr (12, Fs12 _ _ _) from rfl) rfl) rfl rfl hl.1 rfl (lv_room (Nat.le_of_ble_eq_true rfl)) dX12_value_1 ⟨Nat.le_of_ble_eq_true rfl, Nat.le_of_ble_eq_true rfl⟩) hLA hA hB hS (by decide) (fun x_7 σ_5 ρ_6 H locs hB fσ_5 pσ_5 hS => ?_)
  obtain ⟨g_8, g_9, g_10, g_11⟩ := pσ_5
  have w_12 : 0 ≤ (σ_5 h0 8).toInt ∧ (σ_5 h0 8).toInt ≤ 400 := by have z := hB.2.1 h0 mh0 8; rw [th0] at z; exact z
  obtain ⟨lx_7, ux_7⟩ := g_8
  have k_13 : σ_5 h0 1 = (σ h0 1) := (FR.at fσ_5 th0 (by decide)).trans rfl
  have cq_14 : (σ_5 h0 1).toInt = (σ h0 1).toInt := congrArg Int32.toInt k_13
  have k_15 : σ_5 h0 12 = (σ h0 12) := (FR.at fσ_5 th0 (by decide)).trans rfl
  have cq_16 : (σ_5 h0 12).toInt = (σ h0 12).toInt := congrArg Int32.toInt k_15
  have k_17 : σ_5 bl tx.toNatClampNeg = (σ bl tx.toNatClampNeg) := (FR.at fσ_5 tbl (by simp)).trans rfl
  have cq_18 : (σ_5 bl tx.toNatClampNeg).toInt = (σ bl tx.toNatClampNeg).toInt := congrArg Int32.toInt k_17
  refine lv_pop hx hb dX12_value_4 rfl ?_
  refine lv_aload_n hx hb dX12_value_5 rfl (lv_at hl 0 rfl) ?_
  refine t_gv hx hb hts hown hK hB mh0 th0 fi_12_8 rfl mw_5_224 dX12_value_6 ?_
  refine lv_istore_n (lv' := [(1, .int (σ_5 h0 8)), (0, .ref h0)]) hx hb dX12_value_9 rfl hl (by decide) rfl (fun ls hl => ?_)
  refine lv_aload_n hx hb dX12_value_10 rfl (lv_at hl 1 rfl) ?_
  refine lv_aload_n hx hb dX12_value_11 rfl (lv_at hl 1 rfl) ?_
  refine t_gv hx hb hts hown hK hB mh0 th0 fi_12_8 rfl mw_5_224 dX12_value_12 ?_
  refine t_ci (va_runV (As := [.int (σ_5 h0 8)]) (rest := []) ⟨hx, hb, hml, hown, hts⟩ (cz_X12_isDigit l D cA L T r hG hLA.1 σ_5 ρ_6 hB.2.1 _ h0 mh0 th0 ((σ_5 h0 8)) bt hbt mbt tbt (by first | omega | decide)) (cV hts mv_X12_isDigit mw_6_181 rfl rfl ⟨Nat.le_of_ble_eq_true rfl, Nat.le_of_ble_eq_true rfl⟩) (pV hB.1 hK hN mh0 th0 (show shp cA 12 _ _ _ = .inr (12, Fs12 _ _ _) from rfl) rfl) rfl rfl hl.1 rfl (lv_room (Nat.le_of_ble_eq_true rfl)) dX12_value_15 ⟨Nat.le_of_ble_eq_true rfl, Nat.le_of_ble_eq_true rfl⟩) hLA hA hB hS (by decide) (fun x_21 σ_19 ρ_20 H locs hB fσ_19 pσ_19 hS => ?_)
  have qσ_19 := FR.nil fσ_19
  subst qσ_19
  obtain ⟨ox_21, ix_21⟩ := pσ_19
  refine lv_if_eq (tgt := 52) hx hb dX12_value_18 (by decide) (fun c_22 => ?_) (fun c_22 => ?_)
  · skip
    have uc_22 := i_eq (n := 0) (by decide) c_22
    refine lv_aload_n hx hb dX12_value_52 rfl (lv_at hl 1 rfl) ?_
    refine t_ci (va_runV (As := []) (rest := []) ⟨hx, hb, hml, hown, hts⟩ (cz_X12_wordHere l D cA L T r hG hLA.1 σ_5 ρ_20 hB.2.1 _ h0 mh0 th0 bt hbt mbt tbt) (cV hts mv_X12_wordHere mw_6_237 rfl rfl ⟨Nat.le_of_ble_eq_true rfl, Nat.le_of_ble_eq_true rfl⟩) (pV hB.1 hK hN mh0 th0 (show shp cA 12 _ _ _ = .inr (12, Fs12 _ _ _) from rfl) rfl) rfl rfl hl.1 rfl (lv_room (Nat.le_of_ble_eq_true rfl)) dX12_value_53 ⟨Nat.le_of_ble_eq_true rfl, Nat.le_of_ble_eq_true rfl⟩) hLA hA hB hS (by decide) (fun x_25 σ_23 ρ_24 H locs hB fσ_23 pσ_23 hS => ?_)
    obtain ⟨g_26, g_27, g_28⟩ := pσ_23
    have w_29 : 0 ≤ (σ_23 h0 8).toInt ∧ (σ_23 h0 8).toInt ≤ 400 := by have z := hB.2.1 h0 mh0 8; rw [th0] at z; exact z
    obtain ⟨lx_25, ux_25⟩ := g_26
    have k_30 : σ_23 h0 1 = (σ h0 1) := (FR.at fσ_23 th0 (by decide)).trans k_13
    have cq_31 : (σ_23 h0 1).toInt = (σ h0 1).toInt := congrArg Int32.toInt k_30
    have k_32 : σ_23 h0 12 = (σ h0 12) := (FR.at fσ_23 th0 (by decide)).trans k_15
    have cq_33 : (σ_23 h0 12).toInt = (σ h0 12).toInt := congrArg Int32.toInt k_32
    have k_34 : σ_23 bl tx.toNatClampNeg = (σ bl tx.toNatClampNeg) := (FR.at fσ_23 tbl (by simp)).trans k_17
    have cq_35 : (σ_23 bl tx.toNatClampNeg).toInt = (σ bl tx.toNatClampNeg).toInt := congrArg Int32.toInt k_34
    refine lv_istore_n (lv' := [(2, .int x_25), (1, .int (σ_5 h0 8)), (0, .ref h0)]) hx hb dX12_value_56 rfl hl (by decide) rfl (fun ls hl => ?_)
    refine lv_iload_n hx hb dX12_value_57 rfl (lv_at hl 0 rfl) ?_
    refine lv_if_ge (tgt := 68) hx hb dX12_value_58 (by decide) (fun c_36 => ?_) (fun c_36 => ?_)
    · skip
      have uc_36 := i_ge (n := 0) (by decide) c_36
      refine lv_aload_n hx hb dX12_value_68 rfl (lv_at hl 2 rfl) ?_
      refine lv_iload_n hx hb dX12_value_69 rfl (lv_at hl 1 rfl) ?_
      refine t_ci (va_runV (As := [.int (σ_5 h0 8)]) (rest := []) ⟨hx, hb, hml, hown, hts⟩ (cz_X12_makes l D cA L T r hG hLA.1 σ_23 ρ_24 hB.2.1 _ h0 mh0 th0 ((σ_5 h0 8)) (by first | omega | decide) (by first | omega | decide)) (cV hts mv_X12_makes mw_6_229 rfl rfl ⟨Nat.le_of_ble_eq_true rfl, Nat.le_of_ble_eq_true rfl⟩) (pV hB.1 hK hN mh0 th0 (show shp cA 12 _ _ _ = .inr (12, Fs12 _ _ _) from rfl) rfl) rfl rfl hl.1 rfl (lv_room (Nat.le_of_ble_eq_true rfl)) dX12_value_70 ⟨Nat.le_of_ble_eq_true rfl, Nat.le_of_ble_eq_true rfl⟩) hLA hA hB hS (by decide) (fun x_39 σ_37 ρ_38 H locs hB fσ_37 pσ_37 hS => ?_)
      obtain ⟨g_40, g_41⟩ := pσ_37
      have w_42 : 0 ≤ (σ_37 h0 12).toInt ∧ (σ_37 h0 12).toInt ≤ 60 := by have z := hB.2.1 h0 mh0 12; rw [th0] at z; exact z
      obtain ⟨lx_39, ux_39⟩ := g_40
      have k_43 : σ_37 h0 8 = (σ_23 h0 8) := (FR.at fσ_37 th0 (by decide)).trans rfl
      have cq_44 : (σ_37 h0 8).toInt = (σ_23 h0 8).toInt := congrArg Int32.toInt k_43
      have k_45 : σ_37 h0 1 = (σ h0 1) := (FR.at fσ_37 th0 (by decide)).trans k_30
      have cq_46 : (σ_37 h0 1).toInt = (σ h0 1).toInt := congrArg Int32.toInt k_45
      have k_47 : σ_37 bl tx.toNatClampNeg = (σ bl tx.toNatClampNeg) := (FR.at fσ_37 tbl (by simp)).trans k_34
      have cq_48 : (σ_37 bl tx.toNatClampNeg).toInt = (σ bl tx.toNatClampNeg).toInt := congrArg Int32.toInt k_47
      refine lv_if_ne (tgt := 78) hx hb dX12_value_73 (by decide) (fun c_49 => ?_) (fun c_49 => ?_)
      · skip
        have uc_49 := i_ne (n := 0) (by decide) c_49
        refine lv_aload_n hx hb dX12_value_78 rfl (lv_at hl 2 rfl) ?_
        have k_50 := FR.row fσ_37 tbt (fun j => by simp)
        have lt_51 : (σ_37 bt (σ_37 h0 8).toNatClampNeg).toInt = (σ_23 bt (σ_23 h0 8).toNatClampNeg).toInt := by rw [k_50, k_43]
        refine t_cv (va_runV (As := []) (rest := []) ⟨hx, hb, hml, hown, hts⟩ (cz_X12_passWord l D cA L T r hG hLA.1 σ_37 ρ_38 hB.2.1 _ h0 mh0 th0 bt hbt mbt tbt) (cV hts mv_X12_passWord mw_6_169 rfl rfl ⟨Nat.le_of_ble_eq_true rfl, Nat.le_of_ble_eq_true rfl⟩) (pV hB.1 hK hN mh0 th0 (show shp cA 12 _ _ _ = .inr (12, Fs12 _ _ _) from rfl) rfl) rfl rfl hl.1 rfl (lv_room (Nat.le_of_ble_eq_true rfl)) dX12_value_79 ⟨Nat.le_of_ble_eq_true rfl, Nat.le_of_ble_eq_true rfl⟩) hLA hA hB hS (by decide) (fun σ_52 ρ_53 H locs hB fσ_52 pσ_52 hS => ?_)
        obtain ⟨g_55, g_56⟩ := pσ_52
        have w_57 : 0 ≤ (σ_52 h0 8).toInt ∧ (σ_52 h0 8).toInt ≤ 400 := by have z := hB.2.1 h0 mh0 8; rw [th0] at z; exact z
        have k_58 : σ_52 h0 1 = (σ h0 1) := (FR.at fσ_52 th0 (by decide)).trans k_45
        have cq_59 : (σ_52 h0 1).toInt = (σ h0 1).toInt := congrArg Int32.toInt k_58
        have k_60 : σ_52 h0 12 = (σ_37 h0 12) := (FR.at fσ_52 th0 (by decide)).trans rfl
        have cq_61 : (σ_52 h0 12).toInt = (σ_37 h0 12).toInt := congrArg Int32.toInt k_60
        have k_62 : σ_52 bl tx.toNatClampNeg = (σ bl tx.toNatClampNeg) := (FR.at fσ_52 tbl (by simp)).trans k_47
        have cq_63 : (σ_52 bl tx.toNatClampNeg).toInt = (σ bl tx.toNatClampNeg).toInt := congrArg Int32.toInt k_62
        refine lv_aload_n hx hb dX12_value_82 rfl (lv_at hl 2 rfl) ?_
        refine lv_iconst (v := 1) hx hb dX12_value_83 (by decide) ?_
        refine lv_iload_n hx hb dX12_value_84 rfl (lv_at hl 0 rfl) ?_
        have hPL5 : 0 ≤ (σ_52 bl tx.toNatClampNeg).toInt := (by rw [k_62]; omega)
        have k_64 := FR.row fσ_5 tbg (fun j => by simp)
        have k_65 := FR.row fσ_23 tbg (fun j => by simp)
        have k_66 := FR.row fσ_37 tbg (fun j => by simp)
        have k_67 := FR.row fσ_52 tbg (fun j => by simp)
        have vg := ((k_67).trans ((k_66).trans ((k_65).trans (k_64))))
        have k_68 := FR.row fσ_5 tbl (fun j => by simp)
        have k_69 := FR.row fσ_23 tbl (fun j => by simp)
        have k_70 := FR.row fσ_37 tbl (fun j => by simp)
        have k_71 := FR.row fσ_52 tbl (fun j => by simp)
        have vl := ((k_71).trans ((k_70).trans ((k_69).trans (k_68))))
        have vm : (σ h0 12).toInt + 1 ≤ (σ_52 h0 12).toInt := (by rw [k_60]; omega)
        have v6 : (σ_52 h0 12).toInt ≤ 60 := (by rw [k_60]; omega)
        have vn : (σ h0 8).toInt + 1 ≤ (σ_52 h0 8).toInt := (by omega)
        have k_72 : σ_5 h0 11 = tx := (FR.at fσ_5 th0 (by decide)).trans k0
        have k_73 : σ_23 h0 11 = tx := (FR.at fσ_23 th0 (by decide)).trans k_72
        have k_74 : σ_37 h0 11 = tx := (FR.at fσ_37 th0 (by decide)).trans k_73
        have k_75 : σ_52 h0 11 = tx := (FR.at fσ_52 th0 (by decide)).trans k_74
        refine t_cv (va_runV (As := [.int 1, .int x_25]) (rest := []) ⟨hx, hb, hml, hown, hts⟩ (cz_X12_puts l D cA L T r hG hLA.1 σ_52 ρ_53 hB.2.1 _ h0 mh0 th0 1 x_25 bg hbg mbg tbg bl hbl mbl tbl tx k_75 (by first | omega | decide) (by first | omega | decide) (by rw [k_62]; omega)) (cV hts mv_X12_puts mw_6_233 rfl rfl ⟨Nat.le_of_ble_eq_true rfl, Nat.le_of_ble_eq_true rfl⟩) (pV hB.1 hK hN mh0 th0 (show shp cA 12 _ _ _ = .inr (12, Fs12 _ _ _) from rfl) rfl) rfl rfl hl.1 rfl (lv_room (Nat.le_of_ble_eq_true rfl)) dX12_value_85 ⟨Nat.le_of_ble_eq_true rfl, Nat.le_of_ble_eq_true rfl⟩) hLA hA hB hS (by decide) (fun σ_76 ρ_77 H locs hB fσ_76 pσ_76 hS => ?_)
        have w_79 : 0 ≤ (σ_76 bl tx.toNatClampNeg).toInt ∧ (σ_76 bl tx.toNatClampNeg).toInt ≤ 400 := by have z := hB.2.1 bl mbl tx.toNatClampNeg; rw [tbl] at z; exact z
        have k_80 : σ_76 h0 8 = (σ_52 h0 8) := (FR.at fσ_76 th0 (by decide)).trans rfl
        have cq_81 : (σ_76 h0 8).toInt = (σ_52 h0 8).toInt := congrArg Int32.toInt k_80
        have k_82 : σ_76 h0 1 = (σ h0 1) := (FR.at fσ_76 th0 (by decide)).trans k_58
        have cq_83 : (σ_76 h0 1).toInt = (σ h0 1).toInt := congrArg Int32.toInt k_82
        have k_84 : σ_76 h0 12 = (σ_37 h0 12) := (FR.at fσ_76 th0 (by decide)).trans k_60
        have cq_85 : (σ_76 h0 12).toInt = (σ_37 h0 12).toInt := congrArg Int32.toInt k_84
        have k_86 := FR.row fσ_5 tbg (fun j => by simp)
        have k_87 := FR.row fσ_23 tbg (fun j => by simp)
        have k_88 := FR.row fσ_37 tbg (fun j => by simp)
        have k_89 := FR.row fσ_52 tbg (fun j => by simp)
        have k_90 := FR.row fσ_5 tbl (fun j => by simp)
        have k_91 := FR.row fσ_23 tbl (fun j => by simp)
        have k_92 := FR.row fσ_37 tbl (fun j => by simp)
        have k_93 := FR.row fσ_52 tbl (fun j => by simp)
        have ex_94 : EX (σ bg) (σ bl) (σ_52 bg) (σ_52 bl) tx := by rw [((k_89).trans ((k_88).trans ((k_87).trans (k_86)))), ((k_93).trans ((k_92).trans ((k_91).trans (k_90))))]; exact EX.rf
        have ex_95 := EX.tr ex_94 (PU.ex pσ_76 (by have z := hPL5; omega))
        have R1 : RLx σ σ_76 h0 bg bl tx 1 0 := RLx.ps vg vl vm v6 vn pσ_76 (by have z := hPL5; omega) (FR.at fσ_76 th0 (by decide)) (FR.at fσ_76 th0 (by decide)) (stp_word (by omega) (by omega))
        refine lv_iconst (v := 1) hx hb dX12_value_88 (by decide) ?_
        exact W.zret (v := 1) hx hb hr rfl (fun t ht hW => ⟨⟨1, (σ_76, ρ_77), rfl, ⟨hB.2.1, hB.2.2, ⟨(show 0 ≤ (1 : Int32).toInt ∧ (1 : Int32).toInt ≤ 1 from ⟨by decide, by decide⟩), (show (σ h0 8).toInt ≤ (σ_76 h0 8).toInt from (by rw [k_80]; omega)), (show EX (σ bg) (σ bl) (σ_76 bg) (σ_76 bl) tx from ex_95), (show (1 : Int32).toInt = 1 → RLx σ σ_76 h0 bg bl tx 1 0 from (fun h => R1))⟩⟩, (show TP D cA L T r σ_76 ρ_77 t.heap from by rw [ht]; exact hB.1)⟩, hS.F ht⟩) hS.2.2 dX12_value_89
      · skip
        have uc_49 := i_eq (n := 0) (by decide) c_49
        refine lv_iconst (v := 0) hx hb dX12_value_76 (by decide) ?_
        have k_96 := FR.row fσ_5 tbg (fun j => by simp)
        have k_97 := FR.row fσ_23 tbg (fun j => by simp)
        have k_98 := FR.row fσ_37 tbg (fun j => by simp)
        have k_99 := FR.row fσ_5 tbl (fun j => by simp)
        have k_100 := FR.row fσ_23 tbl (fun j => by simp)
        have k_101 := FR.row fσ_37 tbl (fun j => by simp)
        have ex_102 : EX (σ bg) (σ bl) (σ_37 bg) (σ_37 bl) tx := by rw [((k_98).trans ((k_97).trans (k_96))), ((k_101).trans ((k_100).trans (k_99)))]; exact EX.rf
        exact W.zret (v := 0) hx hb hr rfl (fun t ht hW => ⟨⟨0, (σ_37, ρ_38), rfl, ⟨hB.2.1, hB.2.2, ⟨(show 0 ≤ (0 : Int32).toInt ∧ (0 : Int32).toInt ≤ 1 from ⟨by decide, by decide⟩), (show (σ h0 8).toInt ≤ (σ_37 h0 8).toInt from (by rw [k_43]; omega)), (show EX (σ bg) (σ bl) (σ_37 bg) (σ_37 bl) tx from ex_102), (show (0 : Int32).toInt = 1 → RLx σ σ_37 h0 bg bl tx 1 0 from (fun h => absurd h (by decide)))⟩⟩, (show TP D cA L T r σ_37 ρ_38 t.heap from by rw [ht]; exact hB.1)⟩, hS.F ht⟩) hS.2.2 dX12_value_77
    · skip
      have uc_36 := i_nge (n := 0) (by decide) c_36
      refine lv_aload_n hx hb dX12_value_61 rfl (lv_at hl 2 rfl) ?_
      refine lv_iconst (v := 0) hx hb dX12_value_62 (by decide) ?_
      refine lv_iload_n hx hb dX12_value_63 rfl (lv_at hl 1 rfl) ?_
      refine t_ci (va_runV (As := [.int 0, .int (σ_5 h0 8)]) (rest := []) ⟨hx, hb, hml, hown, hts⟩ (cy_X12_fails l D cA L T r hG hLA.1 σ_23 ρ_24 hB.2.1 _ h0 mh0 th0 0 ((σ_5 h0 8)) (by first | omega | decide) (by first | omega | decide) (by first | omega | decide) (by first | omega | decide)) (cV hts mv_X12_fails mw_6_157 rfl rfl ⟨Nat.le_of_ble_eq_true rfl, Nat.le_of_ble_eq_true rfl⟩) (pV hB.1 hK hN mh0 th0 (show shp cA 12 _ _ _ = .inr (12, Fs12 _ _ _) from rfl) rfl) rfl rfl hl.1 rfl (lv_room (Nat.le_of_ble_eq_true rfl)) dX12_value_64 ⟨Nat.le_of_ble_eq_true rfl, Nat.le_of_ble_eq_true rfl⟩) hLA hA hB hS (by decide) (fun x_105 σ_103 ρ_104 H locs hB fσ_103 pσ_103 hS => ?_)
      subst pσ_103
      have k_106 : σ_103 h0 8 = (σ_23 h0 8) := (FR.at fσ_103 th0 (by decide)).trans rfl
      have cq_107 : (σ_103 h0 8).toInt = (σ_23 h0 8).toInt := congrArg Int32.toInt k_106
      have k_108 : σ_103 h0 1 = (σ h0 1) := (FR.at fσ_103 th0 (by decide)).trans k_30
      have cq_109 : (σ_103 h0 1).toInt = (σ h0 1).toInt := congrArg Int32.toInt k_108
      have k_110 : σ_103 h0 12 = (σ h0 12) := (FR.at fσ_103 th0 (by decide)).trans k_32
      have cq_111 : (σ_103 h0 12).toInt = (σ h0 12).toInt := congrArg Int32.toInt k_110
      have k_112 : σ_103 bl tx.toNatClampNeg = (σ bl tx.toNatClampNeg) := (FR.at fσ_103 tbl (by simp)).trans k_34
      have cq_113 : (σ_103 bl tx.toNatClampNeg).toInt = (σ bl tx.toNatClampNeg).toInt := congrArg Int32.toInt k_112
      have k_114 := FR.row fσ_5 tbg (fun j => by simp)
      have k_115 := FR.row fσ_23 tbg (fun j => by simp)
      have k_116 := FR.row fσ_103 tbg (fun j => by simp)
      have k_117 := FR.row fσ_5 tbl (fun j => by simp)
      have k_118 := FR.row fσ_23 tbl (fun j => by simp)
      have k_119 := FR.row fσ_103 tbl (fun j => by simp)
      have ex_120 : EX (σ bg) (σ bl) (σ_103 bg) (σ_103 bl) tx := by rw [((k_116).trans ((k_115).trans (k_114))), ((k_119).trans ((k_118).trans (k_117)))]; exact EX.rf
      exact W.zret (v := 0) hx hb hr rfl (fun t ht hW => ⟨⟨0, (σ_103, ρ_104), rfl, ⟨hB.2.1, hB.2.2, ⟨(show 0 ≤ (0 : Int32).toInt ∧ (0 : Int32).toInt ≤ 1 from ⟨by decide, by decide⟩), (show (σ h0 8).toInt ≤ (σ_103 h0 8).toInt from (by rw [k_106]; omega)), (show EX (σ bg) (σ bl) (σ_103 bg) (σ_103 bl) tx from ex_120), (show (0 : Int32).toInt = 1 → RLx σ σ_103 h0 bg bl tx 1 0 from (fun h => absurd h (by decide)))⟩⟩, (show TP D cA L T r σ_103 ρ_104 t.heap from by rw [ht]; exact hB.1)⟩, hS.F ht⟩) hS.2.2 dX12_value_67
  · skip
    have uc_22 := i_ne (n := 0) (by decide) c_22
    have z0 : (0 : Int32).toInt = 0 := by decide
    have z9 : (99999 : Int32).toInt = 99999 := by decide
    refine lv_aload_n hx hb dX12_value_21 rfl (lv_at hl 1 rfl) ?_
    refine lv_iconst (v := 0) hx hb dX12_value_22 (by decide) ?_
    refine lv_ldc (v := 99999) hx hb hown (hts _ mw_6_228) dX12_value_23 ?_
    refine t_ci (va_runV (As := [.int 0, .int 99999]) (rest := []) ⟨hx, hb, hml, hown, hts⟩ (cz_X12_numberHere l D cA L T r hG hLA.1 σ_5 ρ_20 hB.2.1 _ h0 mh0 th0 0 99999 bt hbt mbt tbt) (cV hts mv_X12_numberHere mw_6_177 rfl rfl ⟨Nat.le_of_ble_eq_true rfl, Nat.le_of_ble_eq_true rfl⟩) (pV hB.1 hK hN mh0 th0 (show shp cA 12 _ _ _ = .inr (12, Fs12 _ _ _) from rfl) rfl) rfl rfl hl.1 rfl (lv_room (Nat.le_of_ble_eq_true rfl)) dX12_value_25 ⟨Nat.le_of_ble_eq_true rfl, Nat.le_of_ble_eq_true rfl⟩) hLA hA hB hS (by decide) (fun x_123 σ_121 ρ_122 H locs hB fσ_121 pσ_121 hS => ?_)
    obtain ⟨g_124, g_125, g_126, g_127⟩ := pσ_121
    have w_128 : 0 ≤ (σ_121 h0 8).toInt ∧ (σ_121 h0 8).toInt ≤ 400 := by have z := hB.2.1 h0 mh0 8; rw [th0] at z; exact z
    have w_129 : (-2147483648) ≤ (σ_121 h0 10).toInt ∧ (σ_121 h0 10).toInt ≤ 2147483647 := by have z := hB.2.1 h0 mh0 10; rw [th0] at z; exact z
    obtain ⟨lx_123, ux_123⟩ := g_124
    have k_130 : σ_121 h0 1 = (σ h0 1) := (FR.at fσ_121 th0 (by decide)).trans k_13
    have cq_131 : (σ_121 h0 1).toInt = (σ h0 1).toInt := congrArg Int32.toInt k_130
    have k_132 : σ_121 h0 12 = (σ h0 12) := (FR.at fσ_121 th0 (by decide)).trans k_15
    have cq_133 : (σ_121 h0 12).toInt = (σ h0 12).toInt := congrArg Int32.toInt k_132
    have k_134 : σ_121 bl tx.toNatClampNeg = (σ bl tx.toNatClampNeg) := (FR.at fσ_121 tbl (by simp)).trans k_17
    have cq_135 : (σ_121 bl tx.toNatClampNeg).toInt = (σ bl tx.toNatClampNeg).toInt := congrArg Int32.toInt k_134
    refine lv_if_eq (tgt := 39) hx hb dX12_value_28 (by decide) (fun c_136 => ?_) (fun c_136 => ?_)
    · skip
      have uc_136 := i_eq (n := 0) (by decide) c_136
      refine lv_iconst (v := 0) hx hb dX12_value_39 (by decide) ?_
      have k_137 := FR.row fσ_5 tbg (fun j => by simp)
      have k_138 := FR.row fσ_121 tbg (fun j => by simp)
      have k_139 := FR.row fσ_5 tbl (fun j => by simp)
      have k_140 := FR.row fσ_121 tbl (fun j => by simp)
      have ex_141 : EX (σ bg) (σ bl) (σ_121 bg) (σ_121 bl) tx := by rw [((k_138).trans (k_137)), ((k_140).trans (k_139))]; exact EX.rf
      exact W.zret (v := 0) hx hb hr rfl (fun t ht hW => ⟨⟨0, (σ_121, ρ_122), rfl, ⟨hB.2.1, hB.2.2, ⟨(show 0 ≤ (0 : Int32).toInt ∧ (0 : Int32).toInt ≤ 1 from ⟨by decide, by decide⟩), (show (σ h0 8).toInt ≤ (σ_121 h0 8).toInt from (by omega)), (show EX (σ bg) (σ bl) (σ_121 bg) (σ_121 bl) tx from ex_141), (show (0 : Int32).toInt = 1 → RLx σ σ_121 h0 bg bl tx 1 0 from (fun h => absurd h (by decide)))⟩⟩, (show TP D cA L T r σ_121 ρ_122 t.heap from by rw [ht]; exact hB.1)⟩, hS.F ht⟩) hS.2.2 dX12_value_40
    · skip
      have uc_136 := i_ne (n := 0) (by decide) c_136
      refine lv_aload_n hx hb dX12_value_31 rfl (lv_at hl 1 rfl) ?_
      refine lv_iload_n hx hb dX12_value_32 rfl (lv_at hl 0 rfl) ?_
      refine t_ci (va_runV (As := [.int (σ_5 h0 8)]) (rest := []) ⟨hx, hb, hml, hown, hts⟩ (cz_X12_makes l D cA L T r hG hLA.1 σ_121 ρ_122 hB.2.1 _ h0 mh0 th0 ((σ_5 h0 8)) (by first | omega | decide) (by first | omega | decide)) (cV hts mv_X12_makes mw_6_229 rfl rfl ⟨Nat.le_of_ble_eq_true rfl, Nat.le_of_ble_eq_true rfl⟩) (pV hB.1 hK hN mh0 th0 (show shp cA 12 _ _ _ = .inr (12, Fs12 _ _ _) from rfl) rfl) rfl rfl hl.1 rfl (lv_room (Nat.le_of_ble_eq_true rfl)) dX12_value_33 ⟨Nat.le_of_ble_eq_true rfl, Nat.le_of_ble_eq_true rfl⟩) hLA hA hB hS (by decide) (fun x_144 σ_142 ρ_143 H locs hB fσ_142 pσ_142 hS => ?_)
      obtain ⟨g_145, g_146⟩ := pσ_142
      have w_147 : 0 ≤ (σ_142 h0 12).toInt ∧ (σ_142 h0 12).toInt ≤ 60 := by have z := hB.2.1 h0 mh0 12; rw [th0] at z; exact z
      obtain ⟨lx_144, ux_144⟩ := g_145
      have k_148 : σ_142 h0 8 = (σ_121 h0 8) := (FR.at fσ_142 th0 (by decide)).trans rfl
      have cq_149 : (σ_142 h0 8).toInt = (σ_121 h0 8).toInt := congrArg Int32.toInt k_148
      have k_150 : σ_142 h0 1 = (σ h0 1) := (FR.at fσ_142 th0 (by decide)).trans k_130
      have cq_151 : (σ_142 h0 1).toInt = (σ h0 1).toInt := congrArg Int32.toInt k_150
      have k_152 : σ_142 h0 10 = (σ_121 h0 10) := (FR.at fσ_142 th0 (by decide)).trans rfl
      have cq_153 : (σ_142 h0 10).toInt = (σ_121 h0 10).toInt := congrArg Int32.toInt k_152
      have k_154 : σ_142 bl tx.toNatClampNeg = (σ bl tx.toNatClampNeg) := (FR.at fσ_142 tbl (by simp)).trans k_134
      have cq_155 : (σ_142 bl tx.toNatClampNeg).toInt = (σ bl tx.toNatClampNeg).toInt := congrArg Int32.toInt k_154
      refine lv_if_ne (tgt := 41) hx hb dX12_value_36 (by decide) (fun c_156 => ?_) (fun c_156 => ?_)
      · skip
        have uc_156 := i_ne (n := 0) (by decide) c_156
        refine lv_aload_n hx hb dX12_value_41 rfl (lv_at hl 1 rfl) ?_
        refine lv_iconst (v := 0) hx hb dX12_value_42 (by decide) ?_
        refine lv_aload_n hx hb dX12_value_43 rfl (lv_at hl 1 rfl) ?_
        refine t_gv hx hb hts hown hK hB mh0 th0 fi_12_10 k_152 mw_5_226 dX12_value_44 ?_
        have hPL4 : 0 ≤ (σ_142 bl tx.toNatClampNeg).toInt := (by rw [k_154]; omega)
        have k_157 := FR.row fσ_5 tbg (fun j => by simp)
        have k_158 := FR.row fσ_121 tbg (fun j => by simp)
        have k_159 := FR.row fσ_142 tbg (fun j => by simp)
        have vg := ((k_159).trans ((k_158).trans (k_157)))
        have k_160 := FR.row fσ_5 tbl (fun j => by simp)
        have k_161 := FR.row fσ_121 tbl (fun j => by simp)
        have k_162 := FR.row fσ_142 tbl (fun j => by simp)
        have vl := ((k_162).trans ((k_161).trans (k_160)))
        have vm : (σ h0 12).toInt + 1 ≤ (σ_142 h0 12).toInt := (by omega)
        have v6 : (σ_142 h0 12).toInt ≤ 60 := (by omega)
        have vn : (σ h0 8).toInt + 1 ≤ (σ_142 h0 8).toInt := (by rw [k_148]; omega)
        have k_163 : σ_5 h0 11 = tx := (FR.at fσ_5 th0 (by decide)).trans k0
        have k_164 : σ_121 h0 11 = tx := (FR.at fσ_121 th0 (by decide)).trans k_163
        have k_165 : σ_142 h0 11 = tx := (FR.at fσ_142 th0 (by decide)).trans k_164
        refine t_cv (va_runV (As := [.int 0, .int (σ_121 h0 10)]) (rest := []) ⟨hx, hb, hml, hown, hts⟩ (cz_X12_puts l D cA L T r hG hLA.1 σ_142 ρ_143 hB.2.1 _ h0 mh0 th0 0 ((σ_121 h0 10)) bg hbg mbg tbg bl hbl mbl tbl tx k_165 (by first | omega | decide) (by first | omega | decide) (by rw [k_154]; omega)) (cV hts mv_X12_puts mw_6_233 rfl rfl ⟨Nat.le_of_ble_eq_true rfl, Nat.le_of_ble_eq_true rfl⟩) (pV hB.1 hK hN mh0 th0 (show shp cA 12 _ _ _ = .inr (12, Fs12 _ _ _) from rfl) rfl) rfl rfl hl.1 rfl (lv_room (Nat.le_of_ble_eq_true rfl)) dX12_value_47 ⟨Nat.le_of_ble_eq_true rfl, Nat.le_of_ble_eq_true rfl⟩) hLA hA hB hS (by decide) (fun σ_166 ρ_167 H locs hB fσ_166 pσ_166 hS => ?_)
        have w_169 : 0 ≤ (σ_166 bl tx.toNatClampNeg).toInt ∧ (σ_166 bl tx.toNatClampNeg).toInt ≤ 400 := by have z := hB.2.1 bl mbl tx.toNatClampNeg; rw [tbl] at z; exact z
        have k_170 : σ_166 h0 8 = (σ_121 h0 8) := (FR.at fσ_166 th0 (by decide)).trans k_148
        have cq_171 : (σ_166 h0 8).toInt = (σ_121 h0 8).toInt := congrArg Int32.toInt k_170
        have k_172 : σ_166 h0 1 = (σ h0 1) := (FR.at fσ_166 th0 (by decide)).trans k_150
        have cq_173 : (σ_166 h0 1).toInt = (σ h0 1).toInt := congrArg Int32.toInt k_172
        have k_174 : σ_166 h0 10 = (σ_121 h0 10) := (FR.at fσ_166 th0 (by decide)).trans k_152
        have cq_175 : (σ_166 h0 10).toInt = (σ_121 h0 10).toInt := congrArg Int32.toInt k_174
        have k_176 : σ_166 h0 12 = (σ_142 h0 12) := (FR.at fσ_166 th0 (by decide)).trans rfl
        have cq_177 : (σ_166 h0 12).toInt = (σ_142 h0 12).toInt := congrArg Int32.toInt k_176
        have k_178 := FR.row fσ_5 tbg (fun j => by simp)
        have k_179 := FR.row fσ_121 tbg (fun j => by simp)
        have k_180 := FR.row fσ_142 tbg (fun j => by simp)
        have k_181 := FR.row fσ_5 tbl (fun j => by simp)
        have k_182 := FR.row fσ_121 tbl (fun j => by simp)
        have k_183 := FR.row fσ_142 tbl (fun j => by simp)
        have ex_184 : EX (σ bg) (σ bl) (σ_142 bg) (σ_142 bl) tx := by rw [((k_180).trans ((k_179).trans (k_178))), ((k_183).trans ((k_182).trans (k_181)))]; exact EX.rf
        have ex_185 := EX.tr ex_184 (PU.ex pσ_166 (by have z := hPL4; omega))
        have R1 : RLx σ σ_166 h0 bg bl tx 1 0 := RLx.ps vg vl vm v6 vn pσ_166 (by have z := hPL4; omega) (FR.at fσ_166 th0 (by decide)) (FR.at fσ_166 th0 (by decide)) (stp_num (by omega) (by omega))
        refine lv_iconst (v := 1) hx hb dX12_value_50 (by decide) ?_
        exact W.zret (v := 1) hx hb hr rfl (fun t ht hW => ⟨⟨1, (σ_166, ρ_167), rfl, ⟨hB.2.1, hB.2.2, ⟨(show 0 ≤ (1 : Int32).toInt ∧ (1 : Int32).toInt ≤ 1 from ⟨by decide, by decide⟩), (show (σ h0 8).toInt ≤ (σ_166 h0 8).toInt from (by rw [k_170]; omega)), (show EX (σ bg) (σ bl) (σ_166 bg) (σ_166 bl) tx from ex_185), (show (1 : Int32).toInt = 1 → RLx σ σ_166 h0 bg bl tx 1 0 from (fun h => R1))⟩⟩, (show TP D cA L T r σ_166 ρ_167 t.heap from by rw [ht]; exact hB.1)⟩, hS.F ht⟩) hS.2.2 dX12_value_51
      · skip
        have uc_156 := i_eq (n := 0) (by decide) c_156
        refine lv_iconst (v := 0) hx hb dX12_value_39 (by decide) ?_
        have k_186 := FR.row fσ_5 tbg (fun j => by simp)
        have k_187 := FR.row fσ_121 tbg (fun j => by simp)
        have k_188 := FR.row fσ_142 tbg (fun j => by simp)
        have k_189 := FR.row fσ_5 tbl (fun j => by simp)
        have k_190 := FR.row fσ_121 tbl (fun j => by simp)
        have k_191 := FR.row fσ_142 tbl (fun j => by simp)
        have ex_192 : EX (σ bg) (σ bl) (σ_142 bg) (σ_142 bl) tx := by rw [((k_188).trans ((k_187).trans (k_186))), ((k_191).trans ((k_190).trans (k_189)))]; exact EX.rf
        exact W.zret (v := 0) hx hb hr rfl (fun t ht hW => ⟨⟨0, (σ_142, ρ_143), rfl, ⟨hB.2.1, hB.2.2, ⟨(show 0 ≤ (0 : Int32).toInt ∧ (0 : Int32).toInt ≤ 1 from ⟨by decide, by decide⟩), (show (σ h0 8).toInt ≤ (σ_142 h0 8).toInt from (by rw [k_148]; omega)), (show EX (σ bg) (σ bl) (σ_142 bg) (σ_142 bl) tx from ex_192), (show (0 : Int32).toInt = 1 → RLx σ σ_142 h0 bg bl tx 1 0 from (fun h => absurd h (by decide)))⟩⟩, (show TP D cA L T r σ_142 ρ_143 t.heap from by rw [ht]; exact hB.1)⟩, hS.F ht⟩) hS.2.2 dX12_value_40
