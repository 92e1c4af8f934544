theorem mw_5_6 : (.instanceMethod yX11_ways : Cond) ∈ wsA := wsA_t (List.mem_append_right _ (List.mem_append_right _ (List.mem_append_right _ (List.mem_append_right _ (List.mem_append_left _ (List.mem_of_getElem? (l := tables_1_5) (i := 6) rfl)))))) rfl
theorem mw_5_7 : (.selects RX11 yX11_ways yX11_ways : Cond) ∈ wsA := wsA_t (List.mem_append_right _ (List.mem_append_right _ (List.mem_append_right _ (List.mem_append_right _ (List.mem_append_left _ (List.mem_of_getElem? (l := tables_1_5) (i := 7) rfl)))))) rfl
theorem mw_5_8 : (.code yX11_ways cX11_ways 2 (some .int) : Cond) ∈ wsA := wsA_t (List.mem_append_right _ (List.mem_append_right _ (List.mem_append_right _ (List.mem_append_right _ (List.mem_append_left _ (List.mem_of_getElem? (l := tables_1_5) (i := 8) rfl)))))) rfl
theorem mw_5_5 : (.methodLink RL 90 yX11_ways : Cond) ∈ wsA := wsA_t (List.mem_append_right _ (List.mem_append_right _ (List.mem_append_right _ (List.mem_append_right _ (List.mem_append_left _ (List.mem_of_getElem? (l := tables_1_5) (i := 5) rfl)))))) rfl
theorem mw_7_223 : (.instanceMethod yX12_ways : Cond) ∈ wsA := wsA_t (List.mem_append_right _ (List.mem_append_right _ (List.mem_append_right _ (List.mem_append_right _ (List.mem_append_right _ (List.mem_append_right _ (List.mem_append_left _ (List.mem_of_getElem? (l := tables_1_7) (i := 223) rfl)))))))) rfl
theorem mw_7_224 : (.selects RX12 yX12_ways yX12_ways : Cond) ∈ wsA := wsA_t (List.mem_append_right _ (List.mem_append_right _ (List.mem_append_right _ (List.mem_append_right _ (List.mem_append_right _ (List.mem_append_right _ (List.mem_append_left _ (List.mem_of_getElem? (l := tables_1_7) (i := 224) rfl)))))))) rfl
theorem mw_7_225 : (.code yX12_ways cX12_ways 2 (some .int) : Cond) ∈ wsA := wsA_t (List.mem_append_right _ (List.mem_append_right _ (List.mem_append_right _ (List.mem_append_right _ (List.mem_append_right _ (List.mem_append_right _ (List.mem_append_left _ (List.mem_of_getElem? (l := tables_1_7) (i := 225) rfl)))))))) rfl
theorem mw_7_222 : (.methodLink RL 93 yX12_ways : Cond) ∈ wsA := wsA_t (List.mem_append_right _ (List.mem_append_right _ (List.mem_append_right _ (List.mem_append_right _ (List.mem_append_right _ (List.mem_append_right _ (List.mem_append_left _ (List.mem_of_getElem? (l := tables_1_7) (i := 222) rfl)))))))) rfl
theorem dL_law_706 : decode cL_law 706 = .ok (.aload_n 1, 1) := by decide +kernel
theorem dL_law_707 : decode cL_law 707 = .ok (.aload_n 0, 1) := by decide +kernel
theorem dL_law_708 : decode cL_law 708 = .ok (.iload_n 3, 1) := by decide +kernel
theorem dL_law_709 : decode cL_law 709 = .ok (.iconst 1, 1) := by decide +kernel
theorem dL_law_710 : decode cL_law 710 = .ok (.iadd, 1) := by decide +kernel
theorem dL_law_711 : decode cL_law 711 = .ok (.iaload, 1) := by decide +kernel
theorem dL_law_712 : decode cL_law 712 = .ok (.invokevirtual 90, 3) := by decide +kernel
theorem dL_law_715 : decode cL_law 715 = .ok (.pop, 1) := by decide +kernel
theorem dL_law_716 : decode cL_law 716 = .ok (.aload_n 2, 1) := by decide +kernel
theorem dL_law_717 : decode cL_law 717 = .ok (.aload_n 0, 1) := by decide +kernel
theorem dL_law_718 : decode cL_law 718 = .ok (.iload_n 3, 1) := by decide +kernel
theorem dL_law_719 : decode cL_law 719 = .ok (.iconst 1, 1) := by decide +kernel
theorem dL_law_720 : decode cL_law 720 = .ok (.iadd, 1) := by decide +kernel
theorem dL_law_721 : decode cL_law 721 = .ok (.iaload, 1) := by decide +kernel
theorem dL_law_722 : decode cL_law 722 = .ok (.invokevirtual 93, 3) := by decide +kernel
theorem dL_law_725 : decode cL_law 725 = .ok (.pop, 1) := by decide +kernel
theorem dL_law_726 : decode cL_law 726 = .ok (.goto 514, 3) := by decide +kernel
theorem mv_X11_ways : MV RX11 yX11_ways cX11_ways 2 (some .int) 1 := ⟨mw_5_6, mw_5_7, mw_1_1, mw_5_8, ⟨rfl, by decide, by decide, by decide +kernel⟩⟩
theorem mv_X12_ways : MV RX12 yX12_ways cX12_ways 2 (some .int) 1 := ⟨mw_7_223, mw_7_224, mw_1_13, mw_7_225, ⟨rfl, by decide, by decide, by decide +kernel⟩⟩
set_option maxHeartbeats 4000000 in
set_option maxRecDepth 100000 in
theorem law_c18 {p : Program} {e : Env} {s : State} {m : MethodId} {below : List Frame} {meth : Method} {c : Code} (l : Launch) {b Ls : Nat} {xs : Nat → Int32} (hLs : Ls ≤ 3072) (hx : p.tables.exec = Jvm.exec) (hb : c.code = code) (hr : meth.sig.returnType = ret) (hml : c.maxLocals = 4) (hown : s.vm.findClass RL = some m.cls) (hts : ∀ w ∈ wsA, w.before #[Value.ref b] s = true) (hX : va_X b Ls xs s s.heap) (hbl : b < s.heap.size) (hlocks : meth.locks = false) (D : va_G) (cA : Nat → ClassId) (hK : va_K D vwCl (tyA cA) s) (hN : NW s) (adK adV : Nat → Nat) (L : List Nat) (T : Nat → Nat) (r : Rg) (hLA : LA (fun q : Nat => s.heap.size ≤ q) L) (hG : GR L T r) (hV : SWL adK adV L s) (qx : Nat) (mqx : qx ∈ L) (tqx : T qx = 11) (bw : Nat) (mbw : bw ∈ L) (tbw : T bw = 10) (w0 : Nat) (mw0 : w0 ∈ L) (tw0 : T w0 = 13) (w1 : Nat) (mw1 : w1 ∈ L) (tw1 : T w1 = 14) (w2 : Nat) (mw2 : w2 ∈ L) (tw2 : T w2 = 15) (w3 : Nat) (mw3 : w3 ∈ L) (tw3 : T w3 = 16) (qm : Nat) (mqm : qm ∈ L) (tqm : T qm = 12) (bg : Nat) (mbg : bg ∈ L) (tbg : T bg = 62) (bk : Nat) (mbk : bk ∈ L) (tbk : T bk = 64) (bc : Nat) (mbc : bc ∈ L) (tbc : T bc = 65) (bx : Nat) (mbx : bx ∈ L) (tbx : T bx = 84) (bi : Nat) (mbi : bi ∈ L) (tbi : T bi = 85) (bf : Nat) (mbf : bf ∈ L) (tbf : T bf = 83) (ba : Nat) (mba : ba ∈ L) (tba : T ba = 60) (hbw : r qx 3 = some bw) (hba : r qx 4 = some ba) (hbg : r qm 3 = some bg) (hbk : r qm 5 = some bk) (hbc : r qm 6 = some bc) (hbx : r qm 42 = some bx) (hbi : r qm 43 = some bi) (hbf : r qm 41 = some bf) (hw0 : r ba 0 = some w0) (hw1 : r ba 1 = some w1) (hw2 : r ba 2 = some w2) (hw3 : r ba 3 = some w3) (hLG : LG T qx bw w0 w1 w2 w3 qm bg bk bc bx bi bf) (i : Int32) (li : 0 ≤ i.toInt) (ui : i.toInt ≤ 3066) (vi : i.toInt + 6 ≤ Ls) (σ0 σ : Sg) (ρ : Lg) (H : Heap) (hB : TS D cA L T r ry msL σ0 σ ρ H) (hI : LI σ qx bw w0 w1 w2 w3 qm bg bk bc bx bi bf) (locs : List Loc) (hS : va_S (fun q : Nat => s.heap.size ≤ q) s.heap H locs) (ls : Array Slot) (hl : lv_has ls 4 [(3, .int i), (2, .ref qm), (1, .ref qx), (0, .ref b)]) (kk : ∀ (σ2 : Sg) (ρ2 : Lg) (H : Heap) (locs : List Loc), TS D cA L T r ry msL σ0 σ2 ρ2 H → LI σ2 qx bw w0 w1 w2 w3 qm bg bk bc bx bi bf → va_S (fun q : Nat => s.heap.size ≤ q) s.heap H locs → W p l e room_1 s m #[Value.ref b] below meth c H locs 378 16064 (lw_Z below #[Value.ref b] s) (F0 m 1240 ls [])) : W p l e room_1 s m #[Value.ref b] below meth c H locs 378 16064 (lw_Z below #[Value.ref b] s) (F0 m 706 ls []) := by
  have hA : ∀ q : Nat, s.heap.size ≤ q → (fun q : Nat => s.heap.size ≤ q) q := fun _ h => h
  have hbA : ¬ (fun q : Nat => s.heap.size ≤ q) b := Nat.not_le.mpr hbl
  refine lv_aload_n hx hb dL_law_706 rfl (lv_at hl 2 rfl) ?_
  refine lv_aload_n hx hb dL_law_707 rfl (lv_at hl 3 rfl) ?_
  refine lv_iload_n hx hb dL_law_708 rfl (lv_at hl 0 rfl) ?_
  refine lv_iconst (v := 1) hx hb dL_law_709 (by decide) ?_
  refine lv_iadd hx hb dL_law_710 ?_
  refine lv_topi (fun x_1 ex_1 => ?_)
  have vx_1 := b_add (rfl : i.toInt = _) (by decide : (1 : Int32).toInt = 1) ex_1 (by omega) (by omega)
  refine va_sld hx hb hX hbl hbA hS (i_in (by omega) (by omega)) dL_law_711 ?_
  refine tp_i (w := xs (i.toInt.toNat + 1)) (by rw [show x_1.toNatClampNeg = i.toInt.toNat + 1 from (by have hn : x_1.toNatClampNeg = x_1.toInt.toNat := rfl; omega)]) ?_
  refine t_ci (va_runV (As := [.int (xs (i.toInt.toNat + 1))]) (rest := []) ⟨hx, hb, hml, hown, hts⟩ (cy_X11_ways l D cA L T r hG hLA.1 σ ρ hB.2.1 _ qx mqx tqx (xs (i.toInt.toNat + 1))) (cV hts mv_X11_ways mw_5_5 rfl rfl ⟨Nat.le_of_ble_eq_true rfl, Nat.le_of_ble_eq_true rfl⟩) (pV hB.1 hK hN mqx tqx (show shp cA 11 _ _ _ = .inr (11, Fs11 _ _ _) from rfl) rfl) rfl rfl hl.1 rfl (lv_room (Nat.le_of_ble_eq_true rfl)) dL_law_712 ⟨Nat.le_of_ble_eq_true rfl, Nat.le_of_ble_eq_true rfl⟩) hLA hA hB hS (by decide) (fun x_4 σ_2 ρ_3 H locs hB fσ_2 pσ_2 hS => ?_)
  have hI_5 : LI σ_2 qx bw w0 w1 w2 w3 qm bg bk bc bx bi bf := LI.fr hLG hI fσ_2 (by decide)
  refine lv_pop hx hb dL_law_715 rfl ?_
  refine lv_aload_n hx hb dL_law_716 rfl (lv_at hl 1 rfl) ?_
  refine lv_aload_n hx hb dL_law_717 rfl (lv_at hl 3 rfl) ?_
  refine lv_iload_n hx hb dL_law_718 rfl (lv_at hl 0 rfl) ?_
  refine lv_iconst (v := 1) hx hb dL_law_719 (by decide) ?_
  refine lv_iadd hx hb dL_law_720 ?_
  refine lv_topi (fun x_6 ex_6 => ?_)
  have vx_6 := b_add (rfl : i.toInt = _) (by decide : (1 : Int32).toInt = 1) ex_6 (by omega) (by omega)
  refine va_sld hx hb hX hbl hbA hS (i_in (by omega) (by omega)) dL_law_721 ?_
  refine tp_i (w := xs (i.toInt.toNat + 1)) (by rw [show x_6.toNatClampNeg = i.toInt.toNat + 1 from (by have hn : x_6.toNatClampNeg = x_6.toInt.toNat := rfl; omega)]) ?_
  refine t_ci (va_runV (As := [.int (xs (i.toInt.toNat + 1))]) (rest := []) ⟨hx, hb, hml, hown, hts⟩ (cy_X12_ways l D cA L T r hG hLA.1 σ_2 ρ_3 hB.2.1 _ qm mqm tqm (xs (i.toInt.toNat + 1))) (cV hts mv_X12_ways mw_7_222 rfl rfl ⟨Nat.le_of_ble_eq_true rfl, Nat.le_of_ble_eq_true rfl⟩) (pV hB.1 hK hN mqm tqm (show shp cA 12 _ _ _ = .inr (12, Fs12 _ _ _) from rfl) rfl) rfl rfl hl.1 rfl (lv_room (Nat.le_of_ble_eq_true rfl)) dL_law_722 ⟨Nat.le_of_ble_eq_true rfl, Nat.le_of_ble_eq_true rfl⟩) hLA hA hB hS (by decide) (fun x_9 σ_7 ρ_8 H locs hB fσ_7 pσ_7 hS => ?_)
  have hI_10 : LI σ_7 qx bw w0 w1 w2 w3 qm bg bk bc bx bi bf := LI.fr hLG hI_5 fσ_7 (by decide)
  refine lv_pop hx hb dL_law_725 rfl ?_
  refine lv_goto (tgt := 1240) hx hb dL_law_726 (by decide) ?_
  exact kk _ _ _ _ hB hI_10 hS
theorem mw_5_18 : (.instanceMethod yX11_sure : Cond) ∈ wsA := wsA_t (List.mem_append_right _ (List.mem_append_right _ (List.mem_append_right _ (List.mem_append_right _ (List.mem_append_left _ (List.mem_of_getElem? (l := tables_1_5) (i := 18) rfl)))))) rfl
theorem mw_5_19 : (.selects RX11 yX11_sure yX11_sure : Cond) ∈ wsA := wsA_t (List.mem_append_right _ (List.mem_append_right _ (List.mem_append_right _ (List.mem_append_right _ (List.mem_append_left _ (List.mem_of_getElem? (l := tables_1_5) (i := 19) rfl)))))) rfl
theorem mw_5_20 : (.code yX11_sure cX11_sure 3 (some .int) : Cond) ∈ wsA := wsA_t (List.mem_append_right _ (List.mem_append_right _ (List.mem_append_right _ (List.mem_append_right _ (List.mem_append_left _ (List.mem_of_getElem? (l := tables_1_5) (i := 20) rfl)))))) rfl
theorem mw_5_17 : (.methodLink RL 94 yX11_sure : Cond) ∈ wsA := wsA_t (List.mem_append_right _ (List.mem_append_right _ (List.mem_append_right _ (List.mem_append_right _ (List.mem_append_left _ (List.mem_of_getElem? (l := tables_1_5) (i := 17) rfl)))))) rfl
theorem mw_7_219 : (.instanceMethod yX12_sure : Cond) ∈ wsA := wsA_t (List.mem_append_right _ (List.mem_append_right _ (List.mem_append_right _ (List.mem_append_right _ (List.mem_append_right _ (List.mem_append_right _ (List.mem_append_left _ (List.mem_of_getElem? (l := tables_1_7) (i := 219) rfl)))))))) rfl
theorem mw_7_220 : (.selects RX12 yX12_sure yX12_sure : Cond) ∈ wsA := wsA_t (List.mem_append_right _ (List.mem_append_right _ (List.mem_append_right _ (List.mem_append_right _ (List.mem_append_right _ (List.mem_append_right _ (List.mem_append_left _ (List.mem_of_getElem? (l := tables_1_7) (i := 220) rfl)))))))) rfl
theorem mw_7_221 : (.code yX12_sure cX12_sure 5 (some .int) : Cond) ∈ wsA := wsA_t (List.mem_append_right _ (List.mem_append_right _ (List.mem_append_right _ (List.mem_append_right _ (List.mem_append_right _ (List.mem_append_right _ (List.mem_append_left _ (List.mem_of_getElem? (l := tables_1_7) (i := 221) rfl)))))))) rfl
theorem mw_7_218 : (.methodLink RL 97 yX12_sure : Cond) ∈ wsA := wsA_t (List.mem_append_right _ (List.mem_append_right _ (List.mem_append_right _ (List.mem_append_right _ (List.mem_append_right _ (List.mem_append_right _ (List.mem_append_left _ (List.mem_of_getElem? (l := tables_1_7) (i := 218) rfl)))))))) rfl
theorem dL_law_729 : decode cL_law 729 = .ok (.aload_n 1, 1) := by decide +kernel
theorem dL_law_730 : decode cL_law 730 = .ok (.aload_n 0, 1) := by decide +kernel
theorem dL_law_731 : decode cL_law 731 = .ok (.iload_n 3, 1) := by decide +kernel
theorem dL_law_732 : decode cL_law 732 = .ok (.iconst 1, 1) := by decide +kernel
theorem dL_law_733 : decode cL_law 733 = .ok (.iadd, 1) := by decide +kernel
theorem dL_law_734 : decode cL_law 734 = .ok (.iaload, 1) := by decide +kernel
theorem dL_law_735 : decode cL_law 735 = .ok (.aload_n 0, 1) := by decide +kernel
theorem dL_law_736 : decode cL_law 736 = .ok (.iload_n 3, 1) := by decide +kernel
theorem dL_law_737 : decode cL_law 737 = .ok (.iconst 2, 1) := by decide +kernel
theorem dL_law_738 : decode cL_law 738 = .ok (.iadd, 1) := by decide +kernel
theorem dL_law_739 : decode cL_law 739 = .ok (.iaload, 1) := by decide +kernel
theorem dL_law_740 : decode cL_law 740 = .ok (.invokevirtual 94, 3) := by decide +kernel
theorem dL_law_743 : decode cL_law 743 = .ok (.pop, 1) := by decide +kernel
theorem dL_law_744 : decode cL_law 744 = .ok (.aload_n 2, 1) := by decide +kernel
theorem dL_law_745 : decode cL_law 745 = .ok (.aload_n 0, 1) := by decide +kernel
theorem dL_law_746 : decode cL_law 746 = .ok (.iload_n 3, 1) := by decide +kernel
theorem dL_law_747 : decode cL_law 747 = .ok (.iconst 1, 1) := by decide +kernel
theorem dL_law_748 : decode cL_law 748 = .ok (.iadd, 1) := by decide +kernel
theorem dL_law_749 : decode cL_law 749 = .ok (.iaload, 1) := by decide +kernel
theorem dL_law_750 : decode cL_law 750 = .ok (.aload_n 0, 1) := by decide +kernel
theorem dL_law_751 : decode cL_law 751 = .ok (.iload_n 3, 1) := by decide +kernel
theorem dL_law_752 : decode cL_law 752 = .ok (.iconst 2, 1) := by decide +kernel
theorem dL_law_753 : decode cL_law 753 = .ok (.iadd, 1) := by decide +kernel
theorem dL_law_754 : decode cL_law 754 = .ok (.iaload, 1) := by decide +kernel
theorem dL_law_755 : decode cL_law 755 = .ok (.invokevirtual 97, 3) := by decide +kernel
theorem dL_law_758 : decode cL_law 758 = .ok (.pop, 1) := by decide +kernel
theorem dL_law_759 : decode cL_law 759 = .ok (.goto 481, 3) := by decide +kernel
theorem mv_X11_sure : MV RX11 yX11_sure cX11_sure 3 (some .int) 2 := ⟨mw_5_18, mw_5_19, mw_1_1, mw_5_20, ⟨rfl, by decide, by decide, by decide +kernel⟩⟩
theorem mv_X12_sure : MV RX12 yX12_sure cX12_sure 5 (some .int) 2 := ⟨mw_7_219, mw_7_220, mw_1_13, mw_7_221, ⟨rfl, by decide, by decide, by decide +kernel⟩⟩
set_option maxHeartbeats 4000000 in
set_option maxRecDepth 100000 in
theorem law_c19 {p : Program} {e : Env} {s : State} {m : MethodId} {below : List Frame} {meth : Method} {c : Code} (l : Launch) {b Ls : Nat} {xs : Nat → Int32} (hLs : Ls ≤ 3072) (hx : p.tables.exec = Jvm.exec) (hb : c.code = code) (hr : meth.sig.returnType = ret) (hml : c.maxLocals = 4) (hown : s.vm.findClass RL = some m.cls) (hts : ∀ w ∈ wsA, w.before #[Value.ref b] s = true) (hX : va_X b Ls xs s s.heap) (hbl : b < s.heap.size) (hlocks : meth.locks = false) (D : va_G) (cA : Nat → ClassId) (hK : va_K D vwCl (tyA cA) s) (hN : NW s) (adK adV : Nat → Nat) (L : List Nat) (T : Nat → Nat) (r : Rg) (hLA : LA (fun q : Nat => s.heap.size ≤ q) L) (hG : GR L T r) (hV : SWL adK adV L s) (qx : Nat) (mqx : qx ∈ L) (tqx : T qx = 11) (bw : Nat) (mbw : bw ∈ L) (tbw : T bw = 10) (w0 : Nat) (mw0 : w0 ∈ L) (tw0 : T w0 = 13) (w1 : Nat) (mw1 : w1 ∈ L) (tw1 : T w1 = 14) (w2 : Nat) (mw2 : w2 ∈ L) (tw2 : T w2 = 15) (w3 : Nat) (mw3 : w3 ∈ L) (tw3 : T w3 = 16) (qm : Nat) (mqm : qm ∈ L) (tqm : T qm = 12) (bg : Nat) (mbg : bg ∈ L) (tbg : T bg = 62) (bk : Nat) (mbk : bk ∈ L) (tbk : T bk = 64) (bc : Nat) (mbc : bc ∈ L) (tbc : T bc = 65) (bx : Nat) (mbx : bx ∈ L) (tbx : T bx = 84) (bi : Nat) (mbi : bi ∈ L) (tbi : T bi = 85) (bf : Nat) (mbf : bf ∈ L) (tbf : T bf = 83) (ba : Nat) (mba : ba ∈ L) (tba : T ba = 60) (hbw : r qx 3 = some bw) (hba : r qx 4 = some ba) (hbg : r qm 3 = some bg) (hbk : r qm 5 = some bk) (hbc : r qm 6 = some bc) (hbx : r qm 42 = some bx) (hbi : r qm 43 = some bi) (hbf : r qm 41 = some bf) (hw0 : r ba 0 = some w0) (hw1 : r ba 1 = some w1) (hw2 : r ba 2 = some w2) (hw3 : r ba 3 = some w3) (hLG : LG T qx bw w0 w1 w2 w3 qm bg bk bc bx bi bf) (i : Int32) (li : 0 ≤ i.toInt) (ui : i.toInt ≤ 3066) (vi : i.toInt + 6 ≤ Ls) (σ0 σ : Sg) (ρ : Lg) (H : Heap) (hB : TS D cA L T r ry msL σ0 σ ρ H) (hI : LI σ qx bw w0 w1 w2 w3 qm bg bk bc bx bi bf) (locs : List Loc) (hS : va_S (fun q : Nat => s.heap.size ≤ q) s.heap H locs) (ls : Array Slot) (hl : lv_has ls 4 [(3, .int i), (2, .ref qm), (1, .ref qx), (0, .ref b)]) (kk : ∀ (σ2 : Sg) (ρ2 : Lg) (H : Heap) (locs : List Loc), TS D cA L T r ry msL σ0 σ2 ρ2 H → LI σ2 qx bw w0 w1 w2 w3 qm bg bk bc bx bi bf → va_S (fun q : Nat => s.heap.size ≤ q) s.heap H locs → W p l e room_1 s m #[Value.ref b] below meth c H locs 378 16064 (lw_Z below #[Value.ref b] s) (F0 m 1240 ls [])) : W p l e room_1 s m #[Value.ref b] below meth c H locs 378 16064 (lw_Z below #[Value.ref b] s) (F0 m 729 ls []) := by
  have hA : ∀ q : Nat, s.heap.size ≤ q → (fun q : Nat => s.heap.size ≤ q) q := fun _ h => h
  have hbA : ¬ (fun q : Nat => s.heap.size ≤ q) b := Nat.not_le.mpr hbl
  refine lv_aload_n hx hb dL_law_729 rfl (lv_at hl 2 rfl) ?_
  refine lv_aload_n hx hb dL_law_730 rfl (lv_at hl 3 rfl) ?_
  refine lv_iload_n hx hb dL_law_731 rfl (lv_at hl 0 rfl) ?_
  refine lv_iconst (v := 1) hx hb dL_law_732 (by decide) ?_
  refine lv_iadd hx hb dL_law_733 ?_
  refine lv_topi (fun x_1 ex_1 => ?_)
  have vx_1 := b_add (rfl : i.toInt = _) (by decide : (1 : Int32).toInt = 1) ex_1 (by omega) (by omega)
  refine va_sld hx hb hX hbl hbA hS (i_in (by omega) (by omega)) dL_law_734 ?_
  refine tp_i (w := xs (i.toInt.toNat + 1)) (by rw [show x_1.toNatClampNeg = i.toInt.toNat + 1 from (by have hn : x_1.toNatClampNeg = x_1.toInt.toNat := rfl; omega)]) ?_
  refine lv_aload_n hx hb dL_law_735 rfl (lv_at hl 3 rfl) ?_
  refine lv_iload_n hx hb dL_law_736 rfl (lv_at hl 0 rfl) ?_
  refine lv_iconst (v := 2) hx hb dL_law_737 (by decide) ?_
  refine lv_iadd hx hb dL_law_738 ?_
  refine lv_topi (fun x_2 ex_2 => ?_)
  have vx_2 := b_add (rfl : i.toInt = _) (by decide : (2 : Int32).toInt = 2) ex_2 (by omega) (by omega)
  refine va_sld hx hb hX hbl hbA hS (i_in (by omega) (by omega)) dL_law_739 ?_
  refine tp_i (w := xs (i.toInt.toNat + 2)) (by rw [show x_2.toNatClampNeg = i.toInt.toNat + 2 from (by have hn : x_2.toNatClampNeg = x_2.toInt.toNat := rfl; omega)]) ?_
  refine t_ci (va_runV (As := [.int (xs (i.toInt.toNat + 1)), .int (xs (i.toInt.toNat + 2))]) (rest := []) ⟨hx, hb, hml, hown, hts⟩ (cy_X11_sure l D cA L T r hG hLA.1 σ ρ hB.2.1 _ qx mqx tqx (xs (i.toInt.toNat + 1)) (xs (i.toInt.toNat + 2))) (cV hts mv_X11_sure mw_5_17 rfl rfl ⟨Nat.le_of_ble_eq_true rfl, Nat.le_of_ble_eq_true rfl⟩) (pV hB.1 hK hN mqx tqx (show shp cA 11 _ _ _ = .inr (11, Fs11 _ _ _) from rfl) rfl) rfl rfl hl.1 rfl (lv_room (Nat.le_of_ble_eq_true rfl)) dL_law_740 ⟨Nat.le_of_ble_eq_true rfl, Nat.le_of_ble_eq_true rfl⟩) hLA hA hB hS (by decide) (fun x_5 σ_3 ρ_4 H locs hB fσ_3 pσ_3 hS => ?_)
  have hI_6 : LI σ_3 qx bw w0 w1 w2 w3 qm bg bk bc bx bi bf := LI.fr hLG hI fσ_3 (by decide)
  refine lv_pop hx hb dL_law_743 rfl ?_
  refine lv_aload_n hx hb dL_law_744 rfl (lv_at hl 1 rfl) ?_
  refine lv_aload_n hx hb dL_law_745 rfl (lv_at hl 3 rfl) ?_
  refine lv_iload_n hx hb dL_law_746 rfl (lv_at hl 0 rfl) ?_
  refine lv_iconst (v := 1) hx hb dL_law_747 (by decide) ?_
  refine lv_iadd hx hb dL_law_748 ?_
  refine lv_topi (fun x_7 ex_7 => ?_)
  have vx_7 := b_add (rfl : i.toInt = _) (by decide : (1 : Int32).toInt = 1) ex_7 (by omega) (by omega)
  refine va_sld hx hb hX hbl hbA hS (i_in (by omega) (by omega)) dL_law_749 ?_
  refine tp_i (w := xs (i.toInt.toNat + 1)) (by rw [show x_7.toNatClampNeg = i.toInt.toNat + 1 from (by have hn : x_7.toNatClampNeg = x_7.toInt.toNat := rfl; omega)]) ?_
  refine lv_aload_n hx hb dL_law_750 rfl (lv_at hl 3 rfl) ?_
  refine lv_iload_n hx hb dL_law_751 rfl (lv_at hl 0 rfl) ?_
  refine lv_iconst (v := 2) hx hb dL_law_752 (by decide) ?_
  refine lv_iadd hx hb dL_law_753 ?_
  refine lv_topi (fun x_8 ex_8 => ?_)
  have vx_8 := b_add (rfl : i.toInt = _) (by decide : (2 : Int32).toInt = 2) ex_8 (by omega) (by omega)
  refine va_sld hx hb hX hbl hbA hS (i_in (by omega) (by omega)) dL_law_754 ?_
  refine tp_i (w := xs (i.toInt.toNat + 2)) (by rw [show x_8.toNatClampNeg = i.toInt.toNat + 2 from (by have hn : x_8.toNatClampNeg = x_8.toInt.toNat := rfl; omega)]) ?_
  refine t_ci (va_runV (As := [.int (xs (i.toInt.toNat + 1)), .int (xs (i.toInt.toNat + 2))]) (rest := []) ⟨hx, hb, hml, hown, hts⟩ (cy_X12_sure l D cA L T r hG hLA.1 σ_3 ρ_4 hB.2.1 _ qm mqm tqm (xs (i.toInt.toNat + 1)) (xs (i.toInt.toNat + 2))) (cV hts mv_X12_sure mw_7_218 rfl rfl ⟨Nat.le_of_ble_eq_true rfl, Nat.le_of_ble_eq_true rfl⟩) (pV hB.1 hK hN mqm tqm (show shp cA 12 _ _ _ = .inr (12, Fs12 _ _ _) from rfl) rfl) rfl rfl hl.1 rfl (lv_room (Nat.le_of_ble_eq_true rfl)) dL_law_755 ⟨Nat.le_of_ble_eq_true rfl, Nat.le_of_ble_eq_true rfl⟩) hLA hA hB hS (by decide) (fun x_11 σ_9 ρ_10 H locs hB fσ_9 pσ_9 hS => ?_)
  have hI_12 : LI σ_9 qx bw w0 w1 w2 w3 qm bg bk bc bx bi bf := LI.fr hLG hI_6 fσ_9 (by decide)
  refine lv_pop hx hb dL_law_758 rfl ?_
  refine lv_goto (tgt := 1240) hx hb dL_law_759 (by decide) ?_
  exact kk _ _ _ _ hB hI_12 hS
theorem mw_5_26 : (.instanceMethod yX11_bag : Cond) ∈ wsA := wsA_t (List.mem_append_right _ (List.mem_append_right _ (List.mem_append_right _ (List.mem_append_right _ (List.mem_append_left _ (List.mem_of_getElem? (l := tables_1_5) (i := 26) rfl)))))) rfl
theorem mw_5_27 : (.selects RX11 yX11_bag yX11_bag : Cond) ∈ wsA := wsA_t (List.mem_append_right _ (List.mem_append_right _ (List.mem_append_right _ (List.mem_append_right _ (List.mem_append_left _ (List.mem_of_getElem? (l := tables_1_5) (i := 27) rfl)))))) rfl
theorem mw_5_28 : (.code yX11_bag cX11_bag 3 (some .int) : Cond) ∈ wsA := wsA_t (List.mem_append_right _ (List.mem_append_right _ (List.mem_append_right _ (List.mem_append_right _ (List.mem_append_left _ (List.mem_of_getElem? (l := tables_1_5) (i := 28) rfl)))))) rfl
theorem mw_5_25 : (.methodLink RL 98 yX11_bag : Cond) ∈ wsA := wsA_t (List.mem_append_right _ (List.mem_append_right _ (List.mem_append_right _ (List.mem_append_right _ (List.mem_append_left _ (List.mem_of_getElem? (l := tables_1_5) (i := 25) rfl)))))) rfl
theorem mw_8_11 : (.instanceMethod yX12_bag : Cond) ∈ wsA := wsA_t (List.mem_append_right _ (List.mem_append_right _ (List.mem_append_right _ (List.mem_append_right _ (List.mem_append_right _ (List.mem_append_right _ (List.mem_append_right _ (List.mem_of_getElem? (l := tables_1_8) (i := 11) rfl)))))))) rfl
theorem mw_8_12 : (.selects RX12 yX12_bag yX12_bag : Cond) ∈ wsA := wsA_t (List.mem_append_right _ (List.mem_append_right _ (List.mem_append_right _ (List.mem_append_right _ (List.mem_append_right _ (List.mem_append_right _ (List.mem_append_right _ (List.mem_of_getElem? (l := tables_1_8) (i := 12) rfl)))))))) rfl
theorem mw_8_13 : (.code yX12_bag cX12_bag 3 (some .int) : Cond) ∈ wsA := wsA_t (List.mem_append_right _ (List.mem_append_right _ (List.mem_append_right _ (List.mem_append_right _ (List.mem_append_right _ (List.mem_append_right _ (List.mem_append_right _ (List.mem_of_getElem? (l := tables_1_8) (i := 13) rfl)))))))) rfl
theorem mw_8_10 : (.methodLink RL 101 yX12_bag : Cond) ∈ wsA := wsA_t (List.mem_append_right _ (List.mem_append_right _ (List.mem_append_right _ (List.mem_append_right _ (List.mem_append_right _ (List.mem_append_right _ (List.mem_append_right _ (List.mem_of_getElem? (l := tables_1_8) (i := 10) rfl)))))))) rfl
theorem dL_law_762 : decode cL_law 762 = .ok (.aload_n 1, 1) := by decide +kernel
theorem dL_law_763 : decode cL_law 763 = .ok (.aload_n 0, 1) := by decide +kernel
theorem dL_law_764 : decode cL_law 764 = .ok (.iload_n 3, 1) := by decide +kernel
theorem dL_law_765 : decode cL_law 765 = .ok (.iconst 1, 1) := by decide +kernel
theorem dL_law_766 : decode cL_law 766 = .ok (.iadd, 1) := by decide +kernel
theorem dL_law_767 : decode cL_law 767 = .ok (.iaload, 1) := by decide +kernel
theorem dL_law_768 : decode cL_law 768 = .ok (.aload_n 0, 1) := by decide +kernel
theorem dL_law_769 : decode cL_law 769 = .ok (.iload_n 3, 1) := by decide +kernel
theorem dL_law_770 : decode cL_law 770 = .ok (.iconst 2, 1) := by decide +kernel
theorem dL_law_771 : decode cL_law 771 = .ok (.iadd, 1) := by decide +kernel
theorem dL_law_772 : decode cL_law 772 = .ok (.iaload, 1) := by decide +kernel
theorem dL_law_773 : decode cL_law 773 = .ok (.invokevirtual 98, 3) := by decide +kernel
theorem dL_law_776 : decode cL_law 776 = .ok (.pop, 1) := by decide +kernel
theorem dL_law_777 : decode cL_law 777 = .ok (.aload_n 2, 1) := by decide +kernel
theorem dL_law_778 : decode cL_law 778 = .ok (.aload_n 0, 1) := by decide +kernel
theorem dL_law_779 : decode cL_law 779 = .ok (.iload_n 3, 1) := by decide +kernel
theorem dL_law_780 : decode cL_law 780 = .ok (.iconst 1, 1) := by decide +kernel
theorem dL_law_781 : decode cL_law 781 = .ok (.iadd, 1) := by decide +kernel
theorem dL_law_782 : decode cL_law 782 = .ok (.iaload, 1) := by decide +kernel
theorem dL_law_783 : decode cL_law 783 = .ok (.aload_n 0, 1) := by decide +kernel
theorem dL_law_784 : decode cL_law 784 = .ok (.iload_n 3, 1) := by decide +kernel
theorem dL_law_785 : decode cL_law 785 = .ok (.iconst 2, 1) := by decide +kernel
theorem dL_law_786 : decode cL_law 786 = .ok (.iadd, 1) := by decide +kernel
theorem dL_law_787 : decode cL_law 787 = .ok (.iaload, 1) := by decide +kernel
theorem dL_law_788 : decode cL_law 788 = .ok (.invokevirtual 101, 3) := by decide +kernel
theorem dL_law_791 : decode cL_law 791 = .ok (.pop, 1) := by decide +kernel
theorem dL_law_792 : decode cL_law 792 = .ok (.goto 448, 3) := by decide +kernel
theorem mv_X11_bag : MV RX11 yX11_bag cX11_bag 3 (some .int) 2 := ⟨mw_5_26, mw_5_27, mw_1_1, mw_5_28, ⟨rfl, by decide, by decide, by decide +kernel⟩⟩
theorem mv_X12_bag : MV RX12 yX12_bag cX12_bag 3 (some .int) 2 := ⟨mw_8_11, mw_8_12, mw_1_13, mw_8_13, ⟨rfl, by decide, by decide, by decide +kernel⟩⟩
set_option maxHeartbeats 4000000 in
set_option maxRecDepth 100000 in
theorem law_c20 {p : Program} {e : Env} {s : State} {m : MethodId} {below : List Frame} {meth : Method} {c : Code} (l : Launch) {b Ls : Nat} {xs : Nat → Int32} (hLs : Ls ≤ 3072) (hx : p.tables.exec = Jvm.exec) (hb : c.code = code) (hr : meth.sig.returnType = ret) (hml : c.maxLocals = 4) (hown : s.vm.findClass RL = some m.cls) (hts : ∀ w ∈ wsA, w.before #[Value.ref b] s = true) (hX : va_X b Ls xs s s.heap) (hbl : b < s.heap.size) (hlocks : meth.locks = false) (D : va_G) (cA : Nat → ClassId) (hK : va_K D vwCl (tyA cA) s) (hN : NW s) (adK adV : Nat → Nat) (L : List Nat) (T : Nat → Nat) (r : Rg) (hLA : LA (fun q : Nat => s.heap.size ≤ q) L) (hG : GR L T r) (hV : SWL adK adV L s) (qx : Nat) (mqx : qx ∈ L) (tqx : T qx = 11) (bw : Nat) (mbw : bw ∈ L) (tbw : T bw = 10) (w0 : Nat) (mw0 : w0 ∈ L) (tw0 : T w0 = 13) (w1 : Nat) (mw1 : w1 ∈ L) (tw1 : T w1 = 14) (w2 : Nat) (mw2 : w2 ∈ L) (tw2 : T w2 = 15) (w3 : Nat) (mw3 : w3 ∈ L) (tw3 : T w3 = 16) (qm : Nat) (mqm : qm ∈ L) (tqm : T qm = 12) (bg : Nat) (mbg : bg ∈ L) (tbg : T bg = 62) (bk : Nat) (mbk : bk ∈ L) (tbk : T bk = 64) (bc : Nat) (mbc : bc ∈ L) (tbc : T bc = 65) (bx : Nat) (mbx : bx ∈ L) (tbx : T bx = 84) (bi : Nat) (mbi : bi ∈ L) (tbi : T bi = 85) (bf : Nat) (mbf : bf ∈ L) (tbf : T bf = 83) (ba : Nat) (mba : ba ∈ L) (tba : T ba = 60) (hbw : r qx 3 = some bw) (hba : r qx 4 = some ba) (hbg : r qm 3 = some bg) (hbk : r qm 5 = some bk) (hbc : r qm 6 = some bc) (hbx : r qm 42 = some bx) (hbi : r qm 43 = some bi) (hbf : r qm 41 = some bf) (hw0 : r ba 0 = some w0) (hw1 : r ba 1 = some w1) (hw2 : r ba 2 = some w2) (hw3 : r ba 3 = some w3) (hLG : LG T qx bw w0 w1 w2 w3 qm bg bk bc bx bi bf) (i : Int32) (li : 0 ≤ i.toInt) (ui : i.toInt ≤ 3066) (vi : i.toInt + 6 ≤ Ls) (σ0 σ : Sg) (ρ : Lg) (H : Heap) (hB : TS D cA L T r ry msL σ0 σ ρ H) (hI : LI σ qx bw w0 w1 w2 w3 qm bg bk bc bx bi bf) (locs : List Loc) (hS : va_S (fun q : Nat => s.heap.size ≤ q) s.heap H locs) (ls : Array Slot) (hl : lv_has ls 4 [(3, .int i), (2, .ref qm), (1, .ref qx), (0, .ref b)]) (kk : ∀ (σ2 : Sg) (ρ2 : Lg) (H : Heap) (locs : List Loc), TS D cA L T r ry msL σ0 σ2 ρ2 H → LI σ2 qx bw w0 w1 w2 w3 qm bg bk bc bx bi bf → va_S (fun q : Nat => s.heap.size ≤ q) s.heap H locs → W p l e room_1 s m #[Value.ref b] below meth c H locs 378 16064 (lw_Z below #[Value.ref b] s) (F0 m 1240 ls [])) : W p l e room_1 s m #[Value.ref b] below meth c H locs 378 16064 (lw_Z below #[Value.ref b] s) (F0 m 762 ls []) := by
  have hA : ∀ q : Nat, s.heap.size ≤ q → (fun q : Nat => s.heap.size ≤ q) q := fun _ h => h
  have hbA : ¬ (fun q : Nat => s.heap.size ≤ q) b := Nat.not_le.mpr hbl
  refine lv_aload_n hx hb dL_law_762 rfl (lv_at hl 2 rfl) ?_
  refine lv_aload_n hx hb dL_law_763 rfl (lv_at hl 3 rfl) ?_
  refine lv_iload_n hx hb dL_law_764 rfl (lv_at hl 0 rfl) ?_
  refine lv_iconst (v := 1) hx hb dL_law_765 (by decide) ?_
  refine lv_iadd hx hb dL_law_766 ?_
  refine lv_topi (fun x_1 ex_1 => ?_)
  have vx_1 := b_add (rfl : i.toInt = _) (by decide : (1 : Int32).toInt = 1) ex_1 (by omega) (by omega)
  refine va_sld hx hb hX hbl hbA hS (i_in (by omega) (by omega)) dL_law_767 ?_
  refine tp_i (w := xs (i.toInt.toNat + 1)) (by rw [show x_1.toNatClampNeg = i.toInt.toNat + 1 from (by have hn : x_1.toNatClampNeg = x_1.toInt.toNat := rfl; omega)]) ?_
  refine lv_aload_n hx hb dL_law_768 rfl (lv_at hl 3 rfl) ?_
  refine lv_iload_n hx hb dL_law_769 rfl (lv_at hl 0 rfl) ?_
  refine lv_iconst (v := 2) hx hb dL_law_770 (by decide) ?_
  refine lv_iadd hx hb dL_law_771 ?_
  refine lv_topi (fun x_2 ex_2 => ?_)
  have vx_2 := b_add (rfl : i.toInt = _) (by decide : (2 : Int32).toInt = 2) ex_2 (by omega) (by omega)
  refine va_sld hx hb hX hbl hbA hS (i_in (by omega) (by omega)) dL_law_772 ?_
  refine tp_i (w := xs (i.toInt.toNat + 2)) (by rw [show x_2.toNatClampNeg = i.toInt.toNat + 2 from (by have hn : x_2.toNatClampNeg = x_2.toInt.toNat := rfl; omega)]) ?_
  refine t_ci (va_runV (As := [.int (xs (i.toInt.toNat + 1)), .int (xs (i.toInt.toNat + 2))]) (rest := []) ⟨hx, hb, hml, hown, hts⟩ (cy_X11_bag l D cA L T r hG hLA.1 σ ρ hB.2.1 _ qx mqx tqx (xs (i.toInt.toNat + 1)) (xs (i.toInt.toNat + 2))) (cV hts mv_X11_bag mw_5_25 rfl rfl ⟨Nat.le_of_ble_eq_true rfl, Nat.le_of_ble_eq_true rfl⟩) (pV hB.1 hK hN mqx tqx (show shp cA 11 _ _ _ = .inr (11, Fs11 _ _ _) from rfl) rfl) rfl rfl hl.1 rfl (lv_room (Nat.le_of_ble_eq_true rfl)) dL_law_773 ⟨Nat.le_of_ble_eq_true rfl, Nat.le_of_ble_eq_true rfl⟩) hLA hA hB hS (by decide) (fun x_5 σ_3 ρ_4 H locs hB fσ_3 pσ_3 hS => ?_)
  have hI_6 : LI σ_3 qx bw w0 w1 w2 w3 qm bg bk bc bx bi bf := LI.fr hLG hI fσ_3 (by decide)
  refine lv_pop hx hb dL_law_776 rfl ?_
  refine lv_aload_n hx hb dL_law_777 rfl (lv_at hl 1 rfl) ?_
  refine lv_aload_n hx hb dL_law_778 rfl (lv_at hl 3 rfl) ?_
  refine lv_iload_n hx hb dL_law_779 rfl (lv_at hl 0 rfl) ?_
  refine lv_iconst (v := 1) hx hb dL_law_780 (by decide) ?_
  refine lv_iadd hx hb dL_law_781 ?_
  refine lv_topi (fun x_7 ex_7 => ?_)
  have vx_7 := b_add (rfl : i.toInt = _) (by decide : (1 : Int32).toInt = 1) ex_7 (by omega) (by omega)
  refine va_sld hx hb hX hbl hbA hS (i_in (by omega) (by omega)) dL_law_782 ?_
  refine tp_i (w := xs (i.toInt.toNat + 1)) (by rw [show x_7.toNatClampNeg = i.toInt.toNat + 1 from (by have hn : x_7.toNatClampNeg = x_7.toInt.toNat := rfl; omega)]) ?_
  refine lv_aload_n hx hb dL_law_783 rfl (lv_at hl 3 rfl) ?_
  refine lv_iload_n hx hb dL_law_784 rfl (lv_at hl 0 rfl) ?_
  refine lv_iconst (v := 2) hx hb dL_law_785 (by decide) ?_
  refine lv_iadd hx hb dL_law_786 ?_
  refine lv_topi (fun x_8 ex_8 => ?_)
  have vx_8 := b_add (rfl : i.toInt = _) (by decide : (2 : Int32).toInt = 2) ex_8 (by omega) (by omega)
  refine va_sld hx hb hX hbl hbA hS (i_in (by omega) (by omega)) dL_law_787 ?_
  refine tp_i (w := xs (i.toInt.toNat + 2)) (by rw [show x_8.toNatClampNeg = i.toInt.toNat + 2 from (by have hn : x_8.toNatClampNeg = x_8.toInt.toNat := rfl; omega)]) ?_
  refine t_ci (va_runV (As := [.int (xs (i.toInt.toNat + 1)), .int (xs (i.toInt.toNat + 2))]) (rest := []) ⟨hx, hb, hml, hown, hts⟩ (cy_X12_bag l D cA L T r hG hLA.1 σ_3 ρ_4 hB.2.1 _ qm mqm tqm (xs (i.toInt.toNat + 1)) (xs (i.toInt.toNat + 2))) (cV hts mv_X12_bag mw_8_10 rfl rfl ⟨Nat.le_of_ble_eq_true rfl, Nat.le_of_ble_eq_true rfl⟩) (pV hB.1 hK hN mqm tqm (show shp cA 12 _ _ _ = .inr (12, Fs12 _ _ _) from rfl) rfl) rfl rfl hl.1 rfl (lv_room (Nat.le_of_ble_eq_true rfl)) dL_law_788 ⟨Nat.le_of_ble_eq_true rfl, Nat.le_of_ble_eq_true rfl⟩) hLA hA hB hS (by decide) (fun x_11 σ_9 ρ_10 H locs hB fσ_9 pσ_9 hS => ?_)
  have hI_12 : LI σ_9 qx bw w0 w1 w2 w3 qm bg bk bc bx bi bf := LI.fr hLG hI_6 fσ_9 (by decide)
  refine lv_pop hx hb dL_law_791 rfl ?_
  refine lv_goto (tgt := 1240) hx hb dL_law_792 (by decide) ?_
  exact kk _ _ _ _ hB hI_12 hS
theorem mw_5_56 : (.instanceMethod yX11_both : Cond) ∈ wsA := wsA_t (List.mem_append_right _ (List.mem_append_right _ (List.mem_append_right _ (List.mem_append_right _ (List.mem_append_left _ (List.mem_of_getElem? (l := tables_1_5) (i := 56) rfl)))))) rfl
theorem mw_5_57 : (.selects RX11 yX11_both yX11_both : Cond) ∈ wsA := wsA_t (List.mem_append_right _ (List.mem_append_right _ (List.mem_append_right _ (List.mem_append_right _ (List.mem_append_left _ (List.mem_of_getElem? (l := tables_1_5) (i := 57) rfl)))))) rfl
theorem mw_5_58 : (.code yX11_both cX11_both 3 (some .int) : Cond) ∈ wsA := wsA_t (List.mem_append_right _ (List.mem_append_right _ (List.mem_append_right _ (List.mem_append_right _ (List.mem_append_left _ (List.mem_of_getElem? (l := tables_1_5) (i := 58) rfl)))))) rfl
theorem mw_5_55 : (.methodLink RL 102 yX11_both : Cond) ∈ wsA := wsA_t (List.mem_append_right _ (List.mem_append_right _ (List.mem_append_right _ (List.mem_append_right _ (List.mem_append_left _ (List.mem_of_getElem? (l := tables_1_5) (i := 55) rfl)))))) rfl
theorem mw_7_239 : (.instanceMethod yX12_both : Cond) ∈ wsA := wsA_t (List.mem_append_right _ (List.mem_append_right _ (List.mem_append_right _ (List.mem_append_right _ (List.mem_append_right _ (List.mem_append_right _ (List.mem_append_left _ (List.mem_of_getElem? (l := tables_1_7) (i := 239) rfl)))))))) rfl
theorem mw_8_0 : (.selects RX12 yX12_both yX12_both : Cond) ∈ wsA := wsA_t (List.mem_append_right _ (List.mem_append_right _ (List.mem_append_right _ (List.mem_append_right _ (List.mem_append_right _ (List.mem_append_right _ (List.mem_append_right _ (List.mem_of_getElem? (l := tables_1_8) (i := 0) rfl)))))))) rfl
theorem mw_8_1 : (.code yX12_both cX12_both 3 (some .int) : Cond) ∈ wsA := wsA_t (List.mem_append_right _ (List.mem_append_right _ (List.mem_append_right _ (List.mem_append_right _ (List.mem_append_right _ (List.mem_append_right _ (List.mem_append_right _ (List.mem_of_getElem? (l := tables_1_8) (i := 1) rfl)))))))) rfl
theorem mw_7_238 : (.methodLink RL 105 yX12_both : Cond) ∈ wsA := wsA_t (List.mem_append_right _ (List.mem_append_right _ (List.mem_append_right _ (List.mem_append_right _ (List.mem_append_right _ (List.mem_append_right _ (List.mem_append_left _ (List.mem_of_getElem? (l := tables_1_7) (i := 238) rfl)))))))) rfl
theorem dL_law_795 : decode cL_law 795 = .ok (.aload_n 1, 1) := by decide +kernel
theorem dL_law_796 : decode cL_law 796 = .ok (.aload_n 0, 1) := by decide +kernel
theorem dL_law_797 : decode cL_law 797 = .ok (.iload_n 3, 1) := by decide +kernel
theorem dL_law_798 : decode cL_law 798 = .ok (.iconst 1, 1) := by decide +kernel
theorem dL_law_799 : decode cL_law 799 = .ok (.iadd, 1) := by decide +kernel
theorem dL_law_800 : decode cL_law 800 = .ok (.iaload, 1) := by decide +kernel
theorem dL_law_801 : decode cL_law 801 = .ok (.aload_n 0, 1) := by decide +kernel
theorem dL_law_802 : decode cL_law 802 = .ok (.iload_n 3, 1) := by decide +kernel
theorem dL_law_803 : decode cL_law 803 = .ok (.iconst 2, 1) := by decide +kernel
theorem dL_law_804 : decode cL_law 804 = .ok (.iadd, 1) := by decide +kernel
theorem dL_law_805 : decode cL_law 805 = .ok (.iaload, 1) := by decide +kernel
theorem dL_law_806 : decode cL_law 806 = .ok (.invokevirtual 102, 3) := by decide +kernel
theorem dL_law_809 : decode cL_law 809 = .ok (.pop, 1) := by decide +kernel
theorem dL_law_810 : decode cL_law 810 = .ok (.aload_n 2, 1) := by decide +kernel
theorem dL_law_811 : decode cL_law 811 = .ok (.aload_n 0, 1) := by decide +kernel
theorem dL_law_812 : decode cL_law 812 = .ok (.iload_n 3, 1) := by decide +kernel
theorem dL_law_813 : decode cL_law 813 = .ok (.iconst 1, 1) := by decide +kernel
theorem dL_law_814 : decode cL_law 814 = .ok (.iadd, 1) := by decide +kernel
theorem dL_law_815 : decode cL_law 815 = .ok (.iaload, 1) := by decide +kernel
theorem dL_law_816 : decode cL_law 816 = .ok (.aload_n 0, 1) := by decide +kernel
theorem dL_law_817 : decode cL_law 817 = .ok (.iload_n 3, 1) := by decide +kernel
theorem dL_law_818 : decode cL_law 818 = .ok (.iconst 2, 1) := by decide +kernel
theorem dL_law_819 : decode cL_law 819 = .ok (.iadd, 1) := by decide +kernel
theorem dL_law_820 : decode cL_law 820 = .ok (.iaload, 1) := by decide +kernel
theorem dL_law_821 : decode cL_law 821 = .ok (.invokevirtual 105, 3) := by decide +kernel
theorem dL_law_824 : decode cL_law 824 = .ok (.pop, 1) := by decide +kernel
theorem dL_law_825 : decode cL_law 825 = .ok (.goto 415, 3) := by decide +kernel
theorem mv_X11_both : MV RX11 yX11_both cX11_both 3 (some .int) 2 := ⟨mw_5_56, mw_5_57, mw_1_1, mw_5_58, ⟨rfl, by decide, by decide, by decide +kernel⟩⟩
theorem mv_X12_both : MV RX12 yX12_both cX12_both 3 (some .int) 2 := ⟨mw_7_239, mw_8_0, mw_1_13, mw_8_1, ⟨rfl, by decide, by decide, by decide +kernel⟩⟩
set_option maxHeartbeats 4000000 in
set_option maxRecDepth 100000 in
theorem law_c21 {p : Program} {e : Env} {s : State} {m : MethodId} {below : List Frame} {meth : Method} {c : Code} (l : Launch) {b Ls : Nat} {xs : Nat → Int32} (hLs : Ls ≤ 3072) (hx : p.tables.exec = Jvm.exec) (hb : c.code = code) (hr : meth.sig.returnType = ret) (hml : c.maxLocals = 4) (hown : s.vm.findClass RL = some m.cls) (hts : ∀ w ∈ wsA, w.before #[Value.ref b] s = true) (hX : va_X b Ls xs s s.heap) (hbl : b < s.heap.size) (hlocks : meth.locks = false) (D : va_G) (cA : Nat → ClassId) (hK : va_K D vwCl (tyA cA) s) (hN : NW s) (adK adV : Nat → Nat) (L : List Nat) (T : Nat → Nat) (r : Rg) (hLA : LA (fun q : Nat => s.heap.size ≤ q) L) (hG : GR L T r) (hV : SWL adK adV L s) (qx : Nat) (mqx : qx ∈ L) (tqx : T qx = 11) (bw : Nat) (mbw : bw ∈ L) (tbw : T bw = 10) (w0 : Nat) (mw0 : w0 ∈ L) (tw0 : T w0 = 13) (w1 : Nat) (mw1 : w1 ∈ L) (tw1 : T w1 = 14) (w2 : Nat) (mw2 : w2 ∈ L) (tw2 : T w2 = 15) (w3 : Nat) (mw3 : w3 ∈ L) (tw3 : T w3 = 16) (qm : Nat) (mqm : qm ∈ L) (tqm : T qm = 12) (bg : Nat) (mbg : bg ∈ L) (tbg : T bg = 62) (bk : Nat) (mbk : bk ∈ L) (tbk : T bk = 64) (bc : Nat) (mbc : bc ∈ L) (tbc : T bc = 65) (bx : Nat) (mbx : bx ∈ L) (tbx : T bx = 84) (bi : Nat) (mbi : bi ∈ L) (tbi : T bi = 85) (bf : Nat) (mbf : bf ∈ L) (tbf : T bf = 83) (ba : Nat) (mba : ba ∈ L) (tba : T ba = 60) (hbw : r qx 3 = some bw) (hba : r qx 4 = some ba) (hbg : r qm 3 = some bg) (hbk : r qm 5 = some bk) (hbc : r qm 6 = some bc) (hbx : r qm 42 = some bx) (hbi : r qm 43 = some bi) (hbf : r qm 41 = some bf) (hw0 : r ba 0 = some w0) (hw1 : r ba 1 = some w1) (hw2 : r ba 2 = some w2) (hw3 : r ba 3 = some w3) (hLG : LG T qx bw w0 w1 w2 w3 qm bg bk bc bx bi bf) (i : Int32) (li : 0 ≤ i.toInt) (ui : i.toInt ≤ 3066) (vi : i.toInt + 6 ≤ Ls) (σ0 σ : Sg) (ρ : Lg) (H : Heap) (hB : TS D cA L T r ry msL σ0 σ ρ H) (hI : LI σ qx bw w0 w1 w2 w3 qm bg bk bc bx bi bf) (locs : List Loc) (hS : va_S (fun q : Nat => s.heap.size ≤ q) s.heap H locs) (ls : Array Slot) (hl : lv_has ls 4 [(3, .int i), (2, .ref qm), (1, .ref qx), (0, .ref b)]) (kk : ∀ (σ2 : Sg) (ρ2 : Lg) (H : Heap) (locs : List Loc), TS D cA L T r ry msL σ0 σ2 ρ2 H → LI σ2 qx bw w0 w1 w2 w3 qm bg bk bc bx bi bf → va_S (fun q : Nat => s.heap.size ≤ q) s.heap H locs → W p l e room_1 s m #[Value.ref b] below meth c H locs 378 16064 (lw_Z below #[Value.ref b] s) (F0 m 1240 ls [])) : W p l e room_1 s m #[Value.ref b] below meth c H locs 378 16064 (lw_Z below #[Value.ref b] s) (F0 m 795 ls []) := by
  have hA : ∀ q : Nat, s.heap.size ≤ q → (fun q : Nat => s.heap.size ≤ q) q := fun _ h => h
  have hbA : ¬ (fun q : Nat => s.heap.size ≤ q) b := Nat.not_le.mpr hbl
  refine lv_aload_n hx hb dL_law_795 rfl (lv_at hl 2 rfl) ?_
  refine lv_aload_n hx hb dL_law_796 rfl (lv_at hl 3 rfl) ?_
  refine lv_iload_n hx hb dL_law_797 rfl (lv_at hl 0 rfl) ?_
  refine lv_iconst (v := 1) hx hb dL_law_798 (by decide) ?_
  refine lv_iadd hx hb dL_law_799 ?_
  refine lv_topi (fun x_1 ex_1 => ?_)
  have vx_1 := b_add (rfl : i.toInt = _) (by decide : (1 : Int32).toInt = 1) ex_1 (by omega) (by omega)
  refine va_sld hx hb hX hbl hbA hS (i_in (by omega) (by omega)) dL_law_800 ?_
  refine tp_i (w := xs (i.toInt.toNat + 1)) (by rw [show x_1.toNatClampNeg = i.toInt.toNat + 1 from (by have hn : x_1.toNatClampNeg = x_1.toInt.toNat := rfl; omega)]) ?_
  refine lv_aload_n hx hb dL_law_801 rfl (lv_at hl 3 rfl) ?_
  refine lv_iload_n hx hb dL_law_802 rfl (lv_at hl 0 rfl) ?_
  refine lv_iconst (v := 2) hx hb dL_law_803 (by decide) ?_
  refine lv_iadd hx hb dL_law_804 ?_
  refine lv_topi (fun x_2 ex_2 => ?_)
  have vx_2 := b_add (rfl : i.toInt = _) (by decide : (2 : Int32).toInt = 2) ex_2 (by omega) (by omega)
  refine va_sld hx hb hX hbl hbA hS (i_in (by omega) (by omega)) dL_law_805 ?_
  refine tp_i (w := xs (i.toInt.toNat + 2)) (by rw [show x_2.toNatClampNeg = i.toInt.toNat + 2 from (by have hn : x_2.toNatClampNeg = x_2.toInt.toNat := rfl; omega)]) ?_
  refine t_ci (va_runV (As := [.int (xs (i.toInt.toNat + 1)), .int (xs (i.toInt.toNat + 2))]) (rest := []) ⟨hx, hb, hml, hown, hts⟩ (cy_X11_both l D cA L T r hG hLA.1 σ ρ hB.2.1 _ qx mqx tqx (xs (i.toInt.toNat + 1)) (xs (i.toInt.toNat + 2))) (cV hts mv_X11_both mw_5_55 rfl rfl ⟨Nat.le_of_ble_eq_true rfl, Nat.le_of_ble_eq_true rfl⟩) (pV hB.1 hK hN mqx tqx (show shp cA 11 _ _ _ = .inr (11, Fs11 _ _ _) from rfl) rfl) rfl rfl hl.1 rfl (lv_room (Nat.le_of_ble_eq_true rfl)) dL_law_806 ⟨Nat.le_of_ble_eq_true rfl, Nat.le_of_ble_eq_true rfl⟩) hLA hA hB hS (by decide) (fun x_5 σ_3 ρ_4 H locs hB fσ_3 pσ_3 hS => ?_)
  have hI_6 : LI σ_3 qx bw w0 w1 w2 w3 qm bg bk bc bx bi bf := LI.fr hLG hI fσ_3 (by decide)
  refine lv_pop hx hb dL_law_809 rfl ?_
  refine lv_aload_n hx hb dL_law_810 rfl (lv_at hl 1 rfl) ?_
  refine lv_aload_n hx hb dL_law_811 rfl (lv_at hl 3 rfl) ?_
  refine lv_iload_n hx hb dL_law_812 rfl (lv_at hl 0 rfl) ?_
  refine lv_iconst (v := 1) hx hb dL_law_813 (by decide) ?_
  refine lv_iadd hx hb dL_law_814 ?_
  refine lv_topi (fun x_7 ex_7 => ?_)
  have vx_7 := b_add (rfl : i.toInt = _) (by decide : (1 : Int32).toInt = 1) ex_7 (by omega) (by omega)
  refine va_sld hx hb hX hbl hbA hS (i_in (by omega) (by omega)) dL_law_815 ?_
  refine tp_i (w := xs (i.toInt.toNat + 1)) (by rw [show x_7.toNatClampNeg = i.toInt.toNat + 1 from (by have hn : x_7.toNatClampNeg = x_7.toInt.toNat := rfl; omega)]) ?_
  refine lv_aload_n hx hb dL_law_816 rfl (lv_at hl 3 rfl) ?_
  refine lv_iload_n hx hb dL_law_817 rfl (lv_at hl 0 rfl) ?_
  refine lv_iconst (v := 2) hx hb dL_law_818 (by decide) ?_
  refine lv_iadd hx hb dL_law_819 ?_
  refine lv_topi (fun x_8 ex_8 => ?_)
  have vx_8 := b_add (rfl : i.toInt = _) (by decide : (2 : Int32).toInt = 2) ex_8 (by omega) (by omega)
  refine va_sld hx hb hX hbl hbA hS (i_in (by omega) (by omega)) dL_law_820 ?_
  refine tp_i (w := xs (i.toInt.toNat + 2)) (by rw [show x_8.toNatClampNeg = i.toInt.toNat + 2 from (by have hn : x_8.toNatClampNeg = x_8.toInt.toNat := rfl; omega)]) ?_
  refine t_ci (va_runV (As := [.int (xs (i.toInt.toNat + 1)), .int (xs (i.toInt.toNat + 2))]) (rest := []) ⟨hx, hb, hml, hown, hts⟩ (cy_X12_both l D cA L T r hG hLA.1 σ_3 ρ_4 hB.2.1 _ qm mqm tqm (xs (i.toInt.toNat + 1)) (xs (i.toInt.toNat + 2))) (cV hts mv_X12_both mw_7_238 rfl rfl ⟨Nat.le_of_ble_eq_true rfl, Nat.le_of_ble_eq_true rfl⟩) (pV hB.1 hK hN mqm tqm (show shp cA 12 _ _ _ = .inr (12, Fs12 _ _ _) from rfl) rfl) rfl rfl hl.1 rfl (lv_room (Nat.le_of_ble_eq_true rfl)) dL_law_821 ⟨Nat.le_of_ble_eq_true rfl, Nat.le_of_ble_eq_true rfl⟩) hLA hA hB hS (by decide) (fun x_11 σ_9 ρ_10 H locs hB fσ_9 pσ_9 hS => ?_)
  have hI_12 : LI σ_9 qx bw w0 w1 w2 w3 qm bg bk bc bx bi bf := LI.fr hLG hI_6 fσ_9 (by decide)
  refine lv_pop hx hb dL_law_824 rfl ?_
  refine lv_goto (tgt := 1240) hx hb dL_law_825 (by decide) ?_
  exact kk _ _ _ _ hB hI_12 hS
theorem mw_5_64 : (.instanceMethod yX11_partner : Cond) ∈ wsA := wsA_t (List.mem_append_right _ (List.mem_append_right _ (List.mem_append_right _ (List.mem_append_right _ (List.mem_append_left _ (List.mem_of_getElem? (l := tables_1_5) (i := 64) rfl)))))) rfl
theorem mw_5_65 : (.selects RX11 yX11_partner yX11_partner : Cond) ∈ wsA := wsA_t (List.mem_append_right _ (List.mem_append_right _ (List.mem_append_right _ (List.mem_append_right _ (List.mem_append_left _ (List.mem_of_getElem? (l := tables_1_5) (i := 65) rfl)))))) rfl
theorem mw_5_66 : (.code yX11_partner cX11_partner 7 (some .int) : Cond) ∈ wsA := wsA_t (List.mem_append_right _ (List.mem_append_right _ (List.mem_append_right _ (List.mem_append_right _ (List.mem_append_left _ (List.mem_of_getElem? (l := tables_1_5) (i := 66) rfl)))))) rfl
theorem mw_5_63 : (.methodLink RL 106 yX11_partner : Cond) ∈ wsA := wsA_t (List.mem_append_right _ (List.mem_append_right _ (List.mem_append_right _ (List.mem_append_right _ (List.mem_append_left _ (List.mem_of_getElem? (l := tables_1_5) (i := 63) rfl)))))) rfl
theorem mw_8_7 : (.instanceMethod yX12_partner : Cond) ∈ wsA := wsA_t (List.mem_append_right _ (List.mem_append_right _ (List.mem_append_right _ (List.mem_append_right _ (List.mem_append_right _ (List.mem_append_right _ (List.mem_append_right _ (List.mem_of_getElem? (l := tables_1_8) (i := 7) rfl)))))))) rfl
theorem mw_8_8 : (.selects RX12 yX12_partner yX12_partner : Cond) ∈ wsA := wsA_t (List.mem_append_right _ (List.mem_append_right _ (List.mem_append_right _ (List.mem_append_right _ (List.mem_append_right _ (List.mem_append_right _ (List.mem_append_right _ (List.mem_of_getElem? (l := tables_1_8) (i := 8) rfl)))))))) rfl
theorem mw_8_9 : (.code yX12_partner cX12_partner 7 (some .int) : Cond) ∈ wsA := wsA_t (List.mem_append_right _ (List.mem_append_right _ (List.mem_append_right _ (List.mem_append_right _ (List.mem_append_right _ (List.mem_append_right _ (List.mem_append_right _ (List.mem_of_getElem? (l := tables_1_8) (i := 9) rfl)))))))) rfl
theorem mw_8_6 : (.methodLink RL 109 yX12_partner : Cond) ∈ wsA := wsA_t (List.mem_append_right _ (List.mem_append_right _ (List.mem_append_right _ (List.mem_append_right _ (List.mem_append_right _ (List.mem_append_right _ (List.mem_append_right _ (List.mem_of_getElem? (l := tables_1_8) (i := 6) rfl)))))))) rfl
theorem dL_law_828 : decode cL_law 828 = .ok (.aload_n 1, 1) := by decide +kernel
theorem dL_law_829 : decode cL_law 829 = .ok (.aload_n 0, 1) := by decide +kernel
theorem dL_law_830 : decode cL_law 830 = .ok (.iload_n 3, 1) := by decide +kernel
theorem dL_law_831 : decode cL_law 831 = .ok (.iconst 1, 1) := by decide +kernel
theorem dL_law_832 : decode cL_law 832 = .ok (.iadd, 1) := by decide +kernel
theorem dL_law_833 : decode cL_law 833 = .ok (.iaload, 1) := by decide +kernel
theorem dL_law_834 : decode cL_law 834 = .ok (.aload_n 0, 1) := by decide +kernel
theorem dL_law_835 : decode cL_law 835 = .ok (.iload_n 3, 1) := by decide +kernel
theorem dL_law_836 : decode cL_law 836 = .ok (.iconst 2, 1) := by decide +kernel
theorem dL_law_837 : decode cL_law 837 = .ok (.iadd, 1) := by decide +kernel
theorem dL_law_838 : decode cL_law 838 = .ok (.iaload, 1) := by decide +kernel
theorem dL_law_839 : decode cL_law 839 = .ok (.invokevirtual 106, 3) := by decide +kernel
theorem dL_law_842 : decode cL_law 842 = .ok (.pop, 1) := by decide +kernel
theorem dL_law_843 : decode cL_law 843 = .ok (.aload_n 2, 1) := by decide +kernel
theorem dL_law_844 : decode cL_law 844 = .ok (.aload_n 0, 1) := by decide +kernel
theorem dL_law_845 : decode cL_law 845 = .ok (.iload_n 3, 1) := by decide +kernel
theorem dL_law_846 : decode cL_law 846 = .ok (.iconst 1, 1) := by decide +kernel
theorem dL_law_847 : decode cL_law 847 = .ok (.iadd, 1) := by decide +kernel
theorem dL_law_848 : decode cL_law 848 = .ok (.iaload, 1) := by decide +kernel
theorem dL_law_849 : decode cL_law 849 = .ok (.aload_n 0, 1) := by decide +kernel
theorem dL_law_850 : decode cL_law 850 = .ok (.iload_n 3, 1) := by decide +kernel
theorem dL_law_851 : decode cL_law 851 = .ok (.iconst 2, 1) := by decide +kernel
theorem dL_law_852 : decode cL_law 852 = .ok (.iadd, 1) := by decide +kernel
theorem dL_law_853 : decode cL_law 853 = .ok (.iaload, 1) := by decide +kernel
theorem dL_law_854 : decode cL_law 854 = .ok (.invokevirtual 109, 3) := by decide +kernel
theorem dL_law_857 : decode cL_law 857 = .ok (.pop, 1) := by decide +kernel
theorem dL_law_858 : decode cL_law 858 = .ok (.goto 382, 3) := by decide +kernel
theorem mv_X11_partner : MV RX11 yX11_partner cX11_partner 7 (some .int) 2 := ⟨mw_5_64, mw_5_65, mw_1_1, mw_5_66, ⟨rfl, by decide, by decide, by decide +kernel⟩⟩
theorem mv_X12_partner : MV RX12 yX12_partner cX12_partner 7 (some .int) 2 := ⟨mw_8_7, mw_8_8, mw_1_13, mw_8_9, ⟨rfl, by decide, by decide, by decide +kernel⟩⟩
set_option maxHeartbeats 4000000 in
set_option maxRecDepth 100000 in
theorem law_c22 {p : Program} {e : Env} {s : State} {m : MethodId} {below : List Frame} {meth : Method} {c : Code} (l : Launch) {b Ls : Nat} {xs : Nat → Int32} (hLs : Ls ≤ 3072) (hx : p.tables.exec = Jvm.exec) (hb : c.code = code) (hr : meth.sig.returnType = ret) (hml : c.maxLocals = 4) (hown : s.vm.findClass RL = some m.cls) (hts : ∀ w ∈ wsA, w.before #[Value.ref b] s = true) (hX : va_X b Ls xs s s.heap) (hbl : b < s.heap.size) (hlocks : meth.locks = false) (D : va_G) (cA : Nat → ClassId) (hK : va_K D vwCl (tyA cA) s) (hN : NW s) (adK adV : Nat → Nat) (L : List Nat) (T : Nat → Nat) (r : Rg) (hLA : LA (fun q : Nat => s.heap.size ≤ q) L) (hG : GR L T r) (hV : SWL adK adV L s) (qx : Nat) (mqx : qx ∈ L) (tqx : T qx = 11) (bw : Nat) (mbw : bw ∈ L) (tbw : T bw = 10) (w0 : Nat) (mw0 : w0 ∈ L) (tw0 : T w0 = 13) (w1 : Nat) (mw1 : w1 ∈ L) (tw1 : T w1 = 14) (w2 : Nat) (mw2 : w2 ∈ L) (tw2 : T w2 = 15) (w3 : Nat) (mw3 : w3 ∈ L) (tw3 : T w3 = 16) (qm : Nat) (mqm : qm ∈ L) (tqm : T qm = 12) (bg : Nat) (mbg : bg ∈ L) (tbg : T bg = 62) (bk : Nat) (mbk : bk ∈ L) (tbk : T bk = 64) (bc : Nat) (mbc : bc ∈ L) (tbc : T bc = 65) (bx : Nat) (mbx : bx ∈ L) (tbx : T bx = 84) (bi : Nat) (mbi : bi ∈ L) (tbi : T bi = 85) (bf : Nat) (mbf : bf ∈ L) (tbf : T bf = 83) (ba : Nat) (mba : ba ∈ L) (tba : T ba = 60) (hbw : r qx 3 = some bw) (hba : r qx 4 = some ba) (hbg : r qm 3 = some bg) (hbk : r qm 5 = some bk) (hbc : r qm 6 = some bc) (hbx : r qm 42 = some bx) (hbi : r qm 43 = some bi) (hbf : r qm 41 = some bf) (hw0 : r ba 0 = some w0) (hw1 : r ba 1 = some w1) (hw2 : r ba 2 = some w2) (hw3 : r ba 3 = some w3) (hLG : LG T qx bw w0 w1 w2 w3 qm bg bk bc bx bi bf) (i : Int32) (li : 0 ≤ i.toInt) (ui : i.toInt ≤ 3066) (vi : i.toInt + 6 ≤ Ls) (σ0 σ : Sg) (ρ : Lg) (H : Heap) (hB : TS D cA L T r ry msL σ0 σ ρ H) (hI : LI σ qx bw w0 w1 w2 w3 qm bg bk bc bx bi bf) (locs : List Loc) (hS : va_S (fun q : Nat => s.heap.size ≤ q) s.heap H locs) (ls : Array Slot) (hl : lv_has ls 4 [(3, .int i), (2, .ref qm), (1, .ref qx), (0, .ref b)]) (kk : ∀ (σ2 : Sg) (ρ2 : Lg) (H : Heap) (locs : List Loc), TS D cA L T r ry msL σ0 σ2 ρ2 H → LI σ2 qx bw w0 w1 w2 w3 qm bg bk bc bx bi bf → va_S (fun q : Nat => s.heap.size ≤ q) s.heap H locs → W p l e room_1 s m #[Value.ref b] below meth c H locs 378 16064 (lw_Z below #[Value.ref b] s) (F0 m 1240 ls [])) : W p l e room_1 s m #[Value.ref b] below meth c H locs 378 16064 (lw_Z below #[Value.ref b] s) (F0 m 828 ls []) := by
  have hA : ∀ q : Nat, s.heap.size ≤ q → (fun q : Nat => s.heap.size ≤ q) q := fun _ h => h
  have hbA : ¬ (fun q : Nat => s.heap.size ≤ q) b := Nat.not_le.mpr hbl
  refine lv_aload_n hx hb dL_law_828 rfl (lv_at hl 2 rfl) ?_
  refine lv_aload_n hx hb dL_law_829 rfl (lv_at hl 3 rfl) ?_
  refine lv_iload_n hx hb dL_law_830 rfl (lv_at hl 0 rfl) ?_
  refine lv_iconst (v := 1) hx hb dL_law_831 (by decide) ?_
  refine lv_iadd hx hb dL_law_832 ?_
  refine lv_topi (fun x_1 ex_1 => ?_)
  have vx_1 := b_add (rfl : i.toInt = _) (by decide : (1 : Int32).toInt = 1) ex_1 (by omega) (by omega)
  refine va_sld hx hb hX hbl hbA hS (i_in (by omega) (by omega)) dL_law_833 ?_
  refine tp_i (w := xs (i.toInt.toNat + 1)) (by rw [show x_1.toNatClampNeg = i.toInt.toNat + 1 from (by have hn : x_1.toNatClampNeg = x_1.toInt.toNat := rfl; omega)]) ?_
  refine lv_aload_n hx hb dL_law_834 rfl (lv_at hl 3 rfl) ?_
  refine lv_iload_n hx hb dL_law_835 rfl (lv_at hl 0 rfl) ?_
  refine lv_iconst (v := 2) hx hb dL_law_836 (by decide) ?_
  refine lv_iadd hx hb dL_law_837 ?_
  refine lv_topi (fun x_2 ex_2 => ?_)
  have vx_2 := b_add (rfl : i.toInt = _) (by decide : (2 : Int32).toInt = 2) ex_2 (by omega) (by omega)
  refine va_sld hx hb hX hbl hbA hS (i_in (by omega) (by omega)) dL_law_838 ?_
  refine tp_i (w := xs (i.toInt.toNat + 2)) (by rw [show x_2.toNatClampNeg = i.toInt.toNat + 2 from (by have hn : x_2.toNatClampNeg = x_2.toInt.toNat := rfl; omega)]) ?_
  refine t_ci (va_runV (As := [.int (xs (i.toInt.toNat + 1)), .int (xs (i.toInt.toNat + 2))]) (rest := []) ⟨hx, hb, hml, hown, hts⟩ (cy_X11_partner l D cA L T r hG hLA.1 σ ρ hB.2.1 _ qx mqx tqx (xs (i.toInt.toNat + 1)) (xs (i.toInt.toNat + 2))) (cV hts mv_X11_partner mw_5_63 rfl rfl ⟨Nat.le_of_ble_eq_true rfl, Nat.le_of_ble_eq_true rfl⟩) (pV hB.1 hK hN mqx tqx (show shp cA 11 _ _ _ = .inr (11, Fs11 _ _ _) from rfl) rfl) rfl rfl hl.1 rfl (lv_room (Nat.le_of_ble_eq_true rfl)) dL_law_839 ⟨Nat.le_of_ble_eq_true rfl, Nat.le_of_ble_eq_true rfl⟩) hLA hA hB hS (by decide) (fun x_5 σ_3 ρ_4 H locs hB fσ_3 pσ_3 hS => ?_)
  have hI_6 : LI σ_3 qx bw w0 w1 w2 w3 qm bg bk bc bx bi bf := LI.fr hLG hI fσ_3 (by decide)
  refine lv_pop hx hb dL_law_842 rfl ?_
  refine lv_aload_n hx hb dL_law_843 rfl (lv_at hl 1 rfl) ?_
  refine lv_aload_n hx hb dL_law_844 rfl (lv_at hl 3 rfl) ?_
  refine lv_iload_n hx hb dL_law_845 rfl (lv_at hl 0 rfl) ?_
  refine lv_iconst (v := 1) hx hb dL_law_846 (by decide) ?_
  refine lv_iadd hx hb dL_law_847 ?_
  refine lv_topi (fun x_7 ex_7 => ?_)
  have vx_7 := b_add (rfl : i.toInt = _) (by decide : (1 : Int32).toInt = 1) ex_7 (by omega) (by omega)
  refine va_sld hx hb hX hbl hbA hS (i_in (by omega) (by omega)) dL_law_848 ?_
  refine tp_i (w := xs (i.toInt.toNat + 1)) (by rw [show x_7.toNatClampNeg = i.toInt.toNat + 1 from (by have hn : x_7.toNatClampNeg = x_7.toInt.toNat := rfl; omega)]) ?_
  refine lv_aload_n hx hb dL_law_849 rfl (lv_at hl 3 rfl) ?_
  refine lv_iload_n hx hb dL_law_850 rfl (lv_at hl 0 rfl) ?_
  refine lv_iconst (v := 2) hx hb dL_law_851 (by decide) ?_
  refine lv_iadd hx hb dL_law_852 ?_
  refine lv_topi (fun x_8 ex_8 => ?_)
  have vx_8 := b_add (rfl : i.toInt = _) (by decide : (2 : Int32).toInt = 2) ex_8 (by omega) (by omega)
  refine va_sld hx hb hX hbl hbA hS (i_in (by omega) (by omega)) dL_law_853 ?_
  refine tp_i (w := xs (i.toInt.toNat + 2)) (by rw [show x_8.toNatClampNeg = i.toInt.toNat + 2 from (by have hn : x_8.toNatClampNeg = x_8.toInt.toNat := rfl; omega)]) ?_
  refine t_ci (va_runV (As := [.int (xs (i.toInt.toNat + 1)), .int (xs (i.toInt.toNat + 2))]) (rest := []) ⟨hx, hb, hml, hown, hts⟩ (cy_X12_partner l D cA L T r hG hLA.1 σ_3 ρ_4 hB.2.1 _ qm mqm tqm (xs (i.toInt.toNat + 1)) (xs (i.toInt.toNat + 2))) (cV hts mv_X12_partner mw_8_6 rfl rfl ⟨Nat.le_of_ble_eq_true rfl, Nat.le_of_ble_eq_true rfl⟩) (pV hB.1 hK hN mqm tqm (show shp cA 12 _ _ _ = .inr (12, Fs12 _ _ _) from rfl) rfl) rfl rfl hl.1 rfl (lv_room (Nat.le_of_ble_eq_true rfl)) dL_law_854 ⟨Nat.le_of_ble_eq_true rfl, Nat.le_of_ble_eq_true rfl⟩) hLA hA hB hS (by decide) (fun x_11 σ_9 ρ_10 H locs hB fσ_9 pσ_9 hS => ?_)
  have hI_12 : LI σ_9 qx bw w0 w1 w2 w3 qm bg bk bc bx bi bf := LI.fr hLG hI_6 fσ_9 (by decide)
  refine lv_pop hx hb dL_law_857 rfl ?_
  refine lv_goto (tgt := 1240) hx hb dL_law_858 (by decide) ?_
  exact kk _ _ _ _ hB hI_12 hS
theorem mw_5_68 : (.instanceMethod yX11_downwards : Cond) ∈ wsA := wsA_t (List.mem_append_right _ (List.mem_append_right _ (List.mem_append_right _ (List.mem_append_right _ (List.mem_append_left _ (List.mem_of_getElem? (l := tables_1_5) (i := 68) rfl)))))) rfl
theorem mw_5_69 : (.selects RX11 yX11_downwards yX11_downwards : Cond) ∈ wsA := wsA_t (List.mem_append_right _ (List.mem_append_right _ (List.mem_append_right _ (List.mem_append_right _ (List.mem_append_left _ (List.mem_of_getElem? (l := tables_1_5) (i := 69) rfl)))))) rfl
theorem mw_5_70 : (.code yX11_downwards cX11_downwards 3 (some .int) : Cond) ∈ wsA := wsA_t (List.mem_append_right _ (List.mem_append_right _ (List.mem_append_right _ (List.mem_append_right _ (List.mem_append_left _ (List.mem_of_getElem? (l := tables_1_5) (i := 70) rfl)))))) rfl
theorem mw_5_67 : (.methodLink RL 110 yX11_downwards : Cond) ∈ wsA := wsA_t (List.mem_append_right _ (List.mem_append_right _ (List.mem_append_right _ (List.mem_append_right _ (List.mem_append_left _ (List.mem_of_getElem? (l := tables_1_5) (i := 67) rfl)))))) rfl
theorem mw_8_39 : (.instanceMethod yX12_downwards : Cond) ∈ wsA := wsA_t (List.mem_append_right _ (List.mem_append_right _ (List.mem_append_right _ (List.mem_append_right _ (List.mem_append_right _ (List.mem_append_right _ (List.mem_append_right _ (List.mem_of_getElem? (l := tables_1_8) (i := 39) rfl)))))))) rfl
theorem mw_8_40 : (.selects RX12 yX12_downwards yX12_downwards : Cond) ∈ wsA := wsA_t (List.mem_append_right _ (List.mem_append_right _ (List.mem_append_right _ (List.mem_append_right _ (List.mem_append_right _ (List.mem_append_right _ (List.mem_append_right _ (List.mem_of_getElem? (l := tables_1_8) (i := 40) rfl)))))))) rfl
theorem mw_8_41 : (.code yX12_downwards cX12_downwards 3 (some .int) : Cond) ∈ wsA := wsA_t (List.mem_append_right _ (List.mem_append_right _ (List.mem_append_right _ (List.mem_append_right _ (List.mem_append_right _ (List.mem_append_right _ (List.mem_append_right _ (List.mem_of_getElem? (l := tables_1_8) (i := 41) rfl)))))))) rfl
theorem mw_8_38 : (.methodLink RL 113 yX12_downwards : Cond) ∈ wsA := wsA_t (List.mem_append_right _ (List.mem_append_right _ (List.mem_append_right _ (List.mem_append_right _ (List.mem_append_right _ (List.mem_append_right _ (List.mem_append_right _ (List.mem_of_getElem? (l := tables_1_8) (i := 38) rfl)))))))) rfl
theorem dL_law_861 : decode cL_law 861 = .ok (.aload_n 1, 1) := by decide +kernel
theorem dL_law_862 : decode cL_law 862 = .ok (.aload_n 0, 1) := by decide +kernel
theorem dL_law_863 : decode cL_law 863 = .ok (.iload_n 3, 1) := by decide +kernel
theorem dL_law_864 : decode cL_law 864 = .ok (.iconst 1, 1) := by decide +kernel
theorem dL_law_865 : decode cL_law 865 = .ok (.iadd, 1) := by decide +kernel
theorem dL_law_866 : decode cL_law 866 = .ok (.iaload, 1) := by decide +kernel
theorem dL_law_867 : decode cL_law 867 = .ok (.aload_n 0, 1) := by decide +kernel
theorem dL_law_868 : decode cL_law 868 = .ok (.iload_n 3, 1) := by decide +kernel
theorem dL_law_869 : decode cL_law 869 = .ok (.iconst 2, 1) := by decide +kernel
theorem dL_law_870 : decode cL_law 870 = .ok (.iadd, 1) := by decide +kernel
theorem dL_law_871 : decode cL_law 871 = .ok (.iaload, 1) := by decide +kernel
theorem dL_law_872 : decode cL_law 872 = .ok (.invokevirtual 110, 3) := by decide +kernel
theorem dL_law_875 : decode cL_law 875 = .ok (.pop, 1) := by decide +kernel
theorem dL_law_876 : decode cL_law 876 = .ok (.aload_n 2, 1) := by decide +kernel
theorem dL_law_877 : decode cL_law 877 = .ok (.aload_n 0, 1) := by decide +kernel
theorem dL_law_878 : decode cL_law 878 = .ok (.iload_n 3, 1) := by decide +kernel
theorem dL_law_879 : decode cL_law 879 = .ok (.iconst 1, 1) := by decide +kernel
theorem dL_law_880 : decode cL_law 880 = .ok (.iadd, 1) := by decide +kernel
theorem dL_law_881 : decode cL_law 881 = .ok (.iaload, 1) := by decide +kernel
theorem dL_law_882 : decode cL_law 882 = .ok (.aload_n 0, 1) := by decide +kernel
theorem dL_law_883 : decode cL_law 883 = .ok (.iload_n 3, 1) := by decide +kernel
theorem dL_law_884 : decode cL_law 884 = .ok (.iconst 2, 1) := by decide +kernel
theorem dL_law_885 : decode cL_law 885 = .ok (.iadd, 1) := by decide +kernel
theorem dL_law_886 : decode cL_law 886 = .ok (.iaload, 1) := by decide +kernel
theorem dL_law_887 : decode cL_law 887 = .ok (.invokevirtual 113, 3) := by decide +kernel
theorem dL_law_890 : decode cL_law 890 = .ok (.pop, 1) := by decide +kernel
theorem dL_law_891 : decode cL_law 891 = .ok (.goto 349, 3) := by decide +kernel
theorem mv_X11_downwards : MV RX11 yX11_downwards cX11_downwards 3 (some .int) 2 := ⟨mw_5_68, mw_5_69, mw_1_1, mw_5_70, ⟨rfl, by decide, by decide, by decide +kernel⟩⟩
theorem mv_X12_downwards : MV RX12 yX12_downwards cX12_downwards 3 (some .int) 2 := ⟨mw_8_39, mw_8_40, mw_1_13, mw_8_41, ⟨rfl, by decide, by decide, by decide +kernel⟩⟩
set_option maxHeartbeats 4000000 in
set_option maxRecDepth 100000 in
theorem law_c23 {p : Program} {e : Env} {s : State} {m : MethodId} {below : List Frame} {meth : Method} {c : Code} (l : Launch) {b Ls : Nat} {xs : Nat → Int32} (hLs : Ls ≤ 3072) (hx : p.tables.exec = Jvm.exec) (hb : c.code = code) (hr : meth.sig.returnType = ret) (hml : c.maxLocals = 4) (hown : s.vm.findClass RL = some m.cls) (hts : ∀ w ∈ wsA, w.before #[Value.ref b] s = true) (hX : va_X b Ls xs s s.heap) (hbl : b < s.heap.size) (hlocks : meth.locks = false) (D : va_G) (cA : Nat → ClassId) (hK : va_K D vwCl (tyA cA) s) (hN : NW s) (adK adV : Nat → Nat) (L : List Nat) (T : Nat → Nat) (r : Rg) (hLA : LA (fun q : Nat => s.heap.size ≤ q) L) (hG : GR L T r) (hV : SWL adK adV L s) (qx : Nat) (mqx : qx ∈ L) (tqx : T qx = 11) (bw : Nat) (mbw : bw ∈ L) (tbw : T bw = 10) (w0 : Nat) (mw0 : w0 ∈ L) (tw0 : T w0 = 13) (w1 : Nat) (mw1 : w1 ∈ L) (tw1 : T w1 = 14) (w2 : Nat) (mw2 : w2 ∈ L) (tw2 : T w2 = 15) (w3 : Nat) (mw3 : w3 ∈ L) (tw3 : T w3 = 16) (qm : Nat) (mqm : qm ∈ L) (tqm : T qm = 12) (bg : Nat) (mbg : bg ∈ L) (tbg : T bg = 62) (bk : Nat) (mbk : bk ∈ L) (tbk : T bk = 64) (bc : Nat) (mbc : bc ∈ L) (tbc : T bc = 65) (bx : Nat) (mbx : bx ∈ L) (tbx : T bx = 84) (bi : Nat) (mbi : bi ∈ L) (tbi : T bi = 85) (bf : Nat) (mbf : bf ∈ L) (tbf : T bf = 83) (ba : Nat) (mba : ba ∈ L) (tba : T ba = 60) (hbw : r qx 3 = some bw) (hba : r qx 4 = some ba) (hbg : r qm 3 = some bg) (hbk : r qm 5 = some bk) (hbc : r qm 6 = some bc) (hbx : r qm 42 = some bx) (hbi : r qm 43 = some bi) (hbf : r qm 41 = some bf) (hw0 : r ba 0 = some w0) (hw1 : r ba 1 = some w1) (hw2 : r ba 2 = some w2) (hw3 : r ba 3 = some w3) (hLG : LG T qx bw w0 w1 w2 w3 qm bg bk bc bx bi bf) (i : Int32) (li : 0 ≤ i.toInt) (ui : i.toInt ≤ 3066) (vi : i.toInt + 6 ≤ Ls) (σ0 σ : Sg) (ρ : Lg) (H : Heap) (hB : TS D cA L T r ry msL σ0 σ ρ H) (hI : LI σ qx bw w0 w1 w2 w3 qm bg bk bc bx bi bf) (locs : List Loc) (hS : va_S (fun q : Nat => s.heap.size ≤ q) s.heap H locs) (ls : Array Slot) (hl : lv_has ls 4 [(3, .int i), (2, .ref qm), (1, .ref qx), (0, .ref b)]) (kk : ∀ (σ2 : Sg) (ρ2 : Lg) (H : Heap) (locs : List Loc), TS D cA L T r ry msL σ0 σ2 ρ2 H → LI σ2 qx bw w0 w1 w2 w3 qm bg bk bc bx bi bf → va_S (fun q : Nat => s.heap.size ≤ q) s.heap H locs → W p l e room_1 s m #[Value.ref b] below meth c H locs 378 16064 (lw_Z below #[Value.ref b] s) (F0 m 1240 ls [])) : W p l e room_1 s m #[Value.ref b] below meth c H locs 378 16064 (lw_Z below #[Value.ref b] s) (F0 m 861 ls []) := by
  have hA : ∀ q : Nat, s.heap.size ≤ q → (fun q : Nat => s.heap.size ≤ q) q := fun _ h => h
  have hbA : ¬ (fun q : Nat => s.heap.size ≤ q) b := Nat.not_le.mpr hbl
  refine lv_aload_n hx hb dL_law_861 rfl (lv_at hl 2 rfl) ?_
  refine lv_aload_n hx hb dL_law_862 rfl (lv_at hl 3 rfl) ?_
  refine lv_iload_n hx hb dL_law_863 rfl (lv_at hl 0 rfl) ?_
  refine lv_iconst (v := 1) hx hb dL_law_864 (by decide) ?_
  refine lv_iadd hx hb dL_law_865 ?_
  refine lv_topi (fun x_1 ex_1 => ?_)
  have vx_1 := b_add (rfl : i.toInt = _) (by decide : (1 : Int32).toInt = 1) ex_1 (by omega) (by omega)
  refine va_sld hx hb hX hbl hbA hS (i_in (by omega) (by omega)) dL_law_866 ?_
  refine tp_i (w := xs (i.toInt.toNat + 1)) (by rw [show x_1.toNatClampNeg = i.toInt.toNat + 1 from (by have hn : x_1.toNatClampNeg = x_1.toInt.toNat := rfl; omega)]) ?_
  refine lv_aload_n hx hb dL_law_867 rfl (lv_at hl 3 rfl) ?_
  refine lv_iload_n hx hb dL_law_868 rfl (lv_at hl 0 rfl) ?_
  refine lv_iconst (v := 2) hx hb dL_law_869 (by decide) ?_
  refine lv_iadd hx hb dL_law_870 ?_
  refine lv_topi (fun x_2 ex_2 => ?_)
  have vx_2 := b_add (rfl : i.toInt = _) (by decide : (2 : Int32).toInt = 2) ex_2 (by omega) (by omega)
  refine va_sld hx hb hX hbl hbA hS (i_in (by omega) (by omega)) dL_law_871 ?_
  refine tp_i (w := xs (i.toInt.toNat + 2)) (by rw [show x_2.toNatClampNeg = i.toInt.toNat + 2 from (by have hn : x_2.toNatClampNeg = x_2.toInt.toNat := rfl; omega)]) ?_
  refine t_ci (va_runV (As := [.int (xs (i.toInt.toNat + 1)), .int (xs (i.toInt.toNat + 2))]) (rest := []) ⟨hx, hb, hml, hown, hts⟩ (cy_X11_downwards l D cA L T r hG hLA.1 σ ρ hB.2.1 _ qx mqx tqx (xs (i.toInt.toNat + 1)) (xs (i.toInt.toNat + 2))) (cV hts mv_X11_downwards mw_5_67 rfl rfl ⟨Nat.le_of_ble_eq_true rfl, Nat.le_of_ble_eq_true rfl⟩) (pV hB.1 hK hN mqx tqx (show shp cA 11 _ _ _ = .inr (11, Fs11 _ _ _) from rfl) rfl) rfl rfl hl.1 rfl (lv_room (Nat.le_of_ble_eq_true rfl)) dL_law_872 ⟨Nat.le_of_ble_eq_true rfl, Nat.le_of_ble_eq_true rfl⟩) hLA hA hB hS (by decide) (fun x_5 σ_3 ρ_4 H locs hB fσ_3 pσ_3 hS => ?_)
  have hI_6 : LI σ_3 qx bw w0 w1 w2 w3 qm bg bk bc bx bi bf := LI.fr hLG hI fσ_3 (by decide)
  refine lv_pop hx hb dL_law_875 rfl ?_
  refine lv_aload_n hx hb dL_law_876 rfl (lv_at hl 1 rfl) ?_
  refine lv_aload_n hx hb dL_law_877 rfl (lv_at hl 3 rfl) ?_
  refine lv_iload_n hx hb dL_law_878 rfl (lv_at hl 0 rfl) ?_
  refine lv_iconst (v := 1) hx hb dL_law_879 (by decide) ?_
  refine lv_iadd hx hb dL_law_880 ?_
  refine lv_topi (fun x_7 ex_7 => ?_)
  have vx_7 := b_add (rfl : i.toInt = _) (by decide : (1 : Int32).toInt = 1) ex_7 (by omega) (by omega)
  refine va_sld hx hb hX hbl hbA hS (i_in (by omega) (by omega)) dL_law_881 ?_
  refine tp_i (w := xs (i.toInt.toNat + 1)) (by rw [show x_7.toNatClampNeg = i.toInt.toNat + 1 from (by have hn : x_7.toNatClampNeg = x_7.toInt.toNat := rfl; omega)]) ?_
  refine lv_aload_n hx hb dL_law_882 rfl (lv_at hl 3 rfl) ?_
  refine lv_iload_n hx hb dL_law_883 rfl (lv_at hl 0 rfl) ?_
  refine lv_iconst (v := 2) hx hb dL_law_884 (by decide) ?_
  refine lv_iadd hx hb dL_law_885 ?_
  refine lv_topi (fun x_8 ex_8 => ?_)
  have vx_8 := b_add (rfl : i.toInt = _) (by decide : (2 : Int32).toInt = 2) ex_8 (by omega) (by omega)
  refine va_sld hx hb hX hbl hbA hS (i_in (by omega) (by omega)) dL_law_886 ?_
  refine tp_i (w := xs (i.toInt.toNat + 2)) (by rw [show x_8.toNatClampNeg = i.toInt.toNat + 2 from (by have hn : x_8.toNatClampNeg = x_8.toInt.toNat := rfl; omega)]) ?_
  refine t_ci (va_runV (As := [.int (xs (i.toInt.toNat + 1)), .int (xs (i.toInt.toNat + 2))]) (rest := []) ⟨hx, hb, hml, hown, hts⟩ (cy_X12_downwards l D cA L T r hG hLA.1 σ_3 ρ_4 hB.2.1 _ qm mqm tqm (xs (i.toInt.toNat + 1)) (xs (i.toInt.toNat + 2))) (cV hts mv_X12_downwards mw_8_38 rfl rfl ⟨Nat.le_of_ble_eq_true rfl, Nat.le_of_ble_eq_true rfl⟩) (pV hB.1 hK hN mqm tqm (show shp cA 12 _ _ _ = .inr (12, Fs12 _ _ _) from rfl) rfl) rfl rfl hl.1 rfl (lv_room (Nat.le_of_ble_eq_true rfl)) dL_law_887 ⟨Nat.le_of_ble_eq_true rfl, Nat.le_of_ble_eq_true rfl⟩) hLA hA hB hS (by decide) (fun x_11 σ_9 ρ_10 H locs hB fσ_9 pσ_9 hS => ?_)
  have hI_12 : LI σ_9 qx bw w0 w1 w2 w3 qm bg bk bc bx bi bf := LI.fr hLG hI_6 fσ_9 (by decide)
  refine lv_pop hx hb dL_law_890 rfl ?_
  refine lv_goto (tgt := 1240) hx hb dL_law_891 (by decide) ?_
  exact kk _ _ _ _ hB hI_12 hS
theorem mw_5_95 : (.instanceMethod yX11_less : Cond) ∈ wsA := wsA_t (List.mem_append_right _ (List.mem_append_right _ (List.mem_append_right _ (List.mem_append_right _ (List.mem_append_left _ (List.mem_of_getElem? (l := tables_1_5) (i := 95) rfl)))))) rfl
theorem mw_5_96 : (.selects RX11 yX11_less yX11_less : Cond) ∈ wsA := wsA_t (List.mem_append_right _ (List.mem_append_right _ (List.mem_append_right _ (List.mem_append_right _ (List.mem_append_left _ (List.mem_of_getElem? (l := tables_1_5) (i := 96) rfl)))))) rfl
theorem mw_5_97 : (.code yX11_less cX11_less 7 (some .int) : Cond) ∈ wsA := wsA_t (List.mem_append_right _ (List.mem_append_right _ (List.mem_append_right _ (List.mem_append_right _ (List.mem_append_left _ (List.mem_of_getElem? (l := tables_1_5) (i := 97) rfl)))))) rfl
theorem mw_5_94 : (.methodLink RL 114 yX11_less : Cond) ∈ wsA := wsA_t (List.mem_append_right _ (List.mem_append_right _ (List.mem_append_right _ (List.mem_append_right _ (List.mem_append_left _ (List.mem_of_getElem? (l := tables_1_5) (i := 94) rfl)))))) rfl
theorem mw_7_235 : (.instanceMethod yX12_less : Cond) ∈ wsA := wsA_t (List.mem_append_right _ (List.mem_append_right _ (List.mem_append_right _ (List.mem_append_right _ (List.mem_append_right _ (List.mem_append_right _ (List.mem_append_left _ (List.mem_of_getElem? (l := tables_1_7) (i := 235) rfl)))))))) rfl
theorem mw_7_236 : (.selects RX12 yX12_less yX12_less : Cond) ∈ wsA := wsA_t (List.mem_append_right _ (List.mem_append_right _ (List.mem_append_right _ (List.mem_append_right _ (List.mem_append_right _ (List.mem_append_right _ (List.mem_append_left _ (List.mem_of_getElem? (l := tables_1_7) (i := 236) rfl)))))))) rfl
theorem mw_7_237 : (.code yX12_less cX12_less 7 (some .int) : Cond) ∈ wsA := wsA_t (List.mem_append_right _ (List.mem_append_right _ (List.mem_append_right _ (List.mem_append_right _ (List.mem_append_right _ (List.mem_append_right _ (List.mem_append_left _ (List.mem_of_getElem? (l := tables_1_7) (i := 237) rfl)))))))) rfl
theorem mw_7_234 : (.methodLink RL 117 yX12_less : Cond) ∈ wsA := wsA_t (List.mem_append_right _ (List.mem_append_right _ (List.mem_append_right _ (List.mem_append_right _ (List.mem_append_right _ (List.mem_append_right _ (List.mem_append_left _ (List.mem_of_getElem? (l := tables_1_7) (i := 234) rfl)))))))) rfl
theorem dL_law_894 : decode cL_law 894 = .ok (.aload_n 1, 1) := by decide +kernel
theorem dL_law_895 : decode cL_law 895 = .ok (.aload_n 0, 1) := by decide +kernel
theorem dL_law_896 : decode cL_law 896 = .ok (.iload_n 3, 1) := by decide +kernel
theorem dL_law_897 : decode cL_law 897 = .ok (.iconst 1, 1) := by decide +kernel
theorem dL_law_898 : decode cL_law 898 = .ok (.iadd, 1) := by decide +kernel
theorem dL_law_899 : decode cL_law 899 = .ok (.iaload, 1) := by decide +kernel
theorem dL_law_900 : decode cL_law 900 = .ok (.aload_n 0, 1) := by decide +kernel
theorem dL_law_901 : decode cL_law 901 = .ok (.iload_n 3, 1) := by decide +kernel
theorem dL_law_902 : decode cL_law 902 = .ok (.iconst 2, 1) := by decide +kernel
theorem dL_law_903 : decode cL_law 903 = .ok (.iadd, 1) := by decide +kernel
theorem dL_law_904 : decode cL_law 904 = .ok (.iaload, 1) := by decide +kernel
theorem dL_law_905 : decode cL_law 905 = .ok (.invokevirtual 114, 3) := by decide +kernel
theorem dL_law_908 : decode cL_law 908 = .ok (.pop, 1) := by decide +kernel
theorem dL_law_909 : decode cL_law 909 = .ok (.aload_n 2, 1) := by decide +kernel
theorem dL_law_910 : decode cL_law 910 = .ok (.aload_n 0, 1) := by decide +kernel
theorem dL_law_911 : decode cL_law 911 = .ok (.iload_n 3, 1) := by decide +kernel
theorem dL_law_912 : decode cL_law 912 = .ok (.iconst 1, 1) := by decide +kernel
theorem dL_law_913 : decode cL_law 913 = .ok (.iadd, 1) := by decide +kernel
theorem dL_law_914 : decode cL_law 914 = .ok (.iaload, 1) := by decide +kernel
theorem dL_law_915 : decode cL_law 915 = .ok (.aload_n 0, 1) := by decide +kernel
theorem dL_law_916 : decode cL_law 916 = .ok (.iload_n 3, 1) := by decide +kernel
theorem dL_law_917 : decode cL_law 917 = .ok (.iconst 2, 1) := by decide +kernel
theorem dL_law_918 : decode cL_law 918 = .ok (.iadd, 1) := by decide +kernel
theorem dL_law_919 : decode cL_law 919 = .ok (.iaload, 1) := by decide +kernel
theorem dL_law_920 : decode cL_law 920 = .ok (.invokevirtual 117, 3) := by decide +kernel
theorem dL_law_923 : decode cL_law 923 = .ok (.pop, 1) := by decide +kernel
theorem dL_law_924 : decode cL_law 924 = .ok (.goto 316, 3) := by decide +kernel
theorem mv_X11_less : MV RX11 yX11_less cX11_less 7 (some .int) 2 := ⟨mw_5_95, mw_5_96, mw_1_1, mw_5_97, ⟨rfl, by decide, by decide, by decide +kernel⟩⟩
theorem mv_X12_less : MV RX12 yX12_less cX12_less 7 (some .int) 2 := ⟨mw_7_235, mw_7_236, mw_1_13, mw_7_237, ⟨rfl, by decide, by decide, by decide +kernel⟩⟩
set_option maxHeartbeats 4000000 in
set_option maxRecDepth 100000 in
theorem law_c24 {p : Program} {e : Env} {s : State} {m : MethodId} {below : List Frame} {meth : Method} {c : Code} (l : Launch) {b Ls : Nat} {xs : Nat → Int32} (hLs : Ls ≤ 3072) (hx : p.tables.exec = Jvm.exec) (hb : c.code = code) (hr : meth.sig.returnType = ret) (hml : c.maxLocals = 4) (hown : s.vm.findClass RL = some m.cls) (hts : ∀ w ∈ wsA, w.before #[Value.ref b] s = true) (hX : va_X b Ls xs s s.heap) (hbl : b < s.heap.size) (hlocks : meth.locks = false) (D : va_G) (cA : Nat → ClassId) (hK : va_K D vwCl (tyA cA) s) (hN : NW s) (adK adV : Nat → Nat) (L : List Nat) (T : Nat → Nat) (r : Rg) (hLA : LA (fun q : Nat => s.heap.size ≤ q) L) (hG : GR L T r) (hV : SWL adK adV L s) (qx : Nat) (mqx : qx ∈ L) (tqx : T qx = 11) (bw : Nat) (mbw : bw ∈ L) (tbw : T bw = 10) (w0 : Nat) (mw0 : w0 ∈ L) (tw0 : T w0 = 13) (w1 : Nat) (mw1 : w1 ∈ L) (tw1 : T w1 = 14) (w2 : Nat) (mw2 : w2 ∈ L) (tw2 : T w2 = 15) (w3 : Nat) (mw3 : w3 ∈ L) (tw3 : T w3 = 16) (qm : Nat) (mqm : qm ∈ L) (tqm : T qm = 12) (bg : Nat) (mbg : bg ∈ L) (tbg : T bg = 62) (bk : Nat) (mbk : bk ∈ L) (tbk : T bk = 64) (bc : Nat) (mbc : bc ∈ L) (tbc : T bc = 65) (bx : Nat) (mbx : bx ∈ L) (tbx : T bx = 84) (bi : Nat) (mbi : bi ∈ L) (tbi : T bi = 85) (bf : Nat) (mbf : bf ∈ L) (tbf : T bf = 83) (ba : Nat) (mba : ba ∈ L) (tba : T ba = 60) (hbw : r qx 3 = some bw) (hba : r qx 4 = some ba) (hbg : r qm 3 = some bg) (hbk : r qm 5 = some bk) (hbc : r qm 6 = some bc) (hbx : r qm 42 = some bx) (hbi : r qm 43 = some bi) (hbf : r qm 41 = some bf) (hw0 : r ba 0 = some w0) (hw1 : r ba 1 = some w1) (hw2 : r ba 2 = some w2) (hw3 : r ba 3 = some w3) (hLG : LG T qx bw w0 w1 w2 w3 qm bg bk bc bx bi bf) (i : Int32) (li : 0 ≤ i.toInt) (ui : i.toInt ≤ 3066) (vi : i.toInt + 6 ≤ Ls) (σ0 σ : Sg) (ρ : Lg) (H : Heap) (hB : TS D cA L T r ry msL σ0 σ ρ H) (hI : LI σ qx bw w0 w1 w2 w3 qm bg bk bc bx bi bf) (locs : List Loc) (hS : va_S (fun q : Nat => s.heap.size ≤ q) s.heap H locs) (ls : Array Slot) (hl : lv_has ls 4 [(3, .int i), (2, .ref qm), (1, .ref qx), (0, .ref b)]) (kk : ∀ (σ2 : Sg) (ρ2 : Lg) (H : Heap) (locs : List Loc), TS D cA L T r ry msL σ0 σ2 ρ2 H → LI σ2 qx bw w0 w1 w2 w3 qm bg bk bc bx bi bf → va_S (fun q : Nat => s.heap.size ≤ q) s.heap H locs → W p l e room_1 s m #[Value.ref b] below meth c H locs 378 16064 (lw_Z below #[Value.ref b] s) (F0 m 1240 ls [])) : W p l e room_1 s m #[Value.ref b] below meth c H locs 378 16064 (lw_Z below #[Value.ref b] s) (F0 m 894 ls []) := by
  have hA : ∀ q : Nat, s.heap.size ≤ q → (fun q : Nat => s.heap.size ≤ q) q := fun _ h => h
  have hbA : ¬ (fun q : Nat => s.heap.size ≤ q) b := Nat.not_le.mpr hbl
  refine lv_aload_n hx hb dL_law_894 rfl (lv_at hl 2 rfl) ?_
  refine lv_aload_n hx hb dL_law_895 rfl (lv_at hl 3 rfl) ?_
  refine lv_iload_n hx hb dL_law_896 rfl (lv_at hl 0 rfl) ?_
  refine lv_iconst (v := 1) hx hb dL_law_897 (by decide) ?_
  refine lv_iadd hx hb dL_law_898 ?_
  refine lv_topi (fun x_1 ex_1 => ?_)
  have vx_1 := b_add (rfl : i.toInt = _) (by decide : (1 : Int32).toInt = 1) ex_1 (by omega) (by omega)
  refine va_sld hx hb hX hbl hbA hS (i_in (by omega) (by omega)) dL_law_899 ?_
  refine tp_i (w := xs (i.toInt.toNat + 1)) (by rw [show x_1.toNatClampNeg = i.toInt.toNat + 1 from (by have hn : x_1.toNatClampNeg = x_1.toInt.toNat := rfl; omega)]) ?_
  refine lv_aload_n hx hb dL_law_900 rfl (lv_at hl 3 rfl) ?_
  refine lv_iload_n hx hb dL_law_901 rfl (lv_at hl 0 rfl) ?_
  refine lv_iconst (v := 2) hx hb dL_law_902 (by decide) ?_
  refine lv_iadd hx hb dL_law_903 ?_
  refine lv_topi (fun x_2 ex_2 => ?_)
  have vx_2 := b_add (rfl : i.toInt = _) (by decide : (2 : Int32).toInt = 2) ex_2 (by omega) (by omega)
  refine va_sld hx hb hX hbl hbA hS (i_in (by omega) (by omega)) dL_law_904 ?_
  refine tp_i (w := xs (i.toInt.toNat + 2)) (by rw [show x_2.toNatClampNeg = i.toInt.toNat + 2 from (by have hn : x_2.toNatClampNeg = x_2.toInt.toNat := rfl; omega)]) ?_
  refine t_ci (va_runV (As := [.int (xs (i.toInt.toNat + 1)), .int (xs (i.toInt.toNat + 2))]) (rest := []) ⟨hx, hb, hml, hown, hts⟩ (cy_X11_less l D cA L T r hG hLA.1 σ ρ hB.2.1 _ qx mqx tqx (xs (i.toInt.toNat + 1)) (xs (i.toInt.toNat + 2))) (cV hts mv_X11_less mw_5_94 rfl rfl ⟨Nat.le_of_ble_eq_true rfl, Nat.le_of_ble_eq_true rfl⟩) (pV hB.1 hK hN mqx tqx (show shp cA 11 _ _ _ = .inr (11, Fs11 _ _ _) from rfl) rfl) rfl rfl hl.1 rfl (lv_room (Nat.le_of_ble_eq_true rfl)) dL_law_905 ⟨Nat.le_of_ble_eq_true rfl, Nat.le_of_ble_eq_true rfl⟩) hLA hA hB hS (by decide) (fun x_5 σ_3 ρ_4 H locs hB fσ_3 pσ_3 hS => ?_)
  have hI_6 : LI σ_3 qx bw w0 w1 w2 w3 qm bg bk bc bx bi bf := LI.fr hLG hI fσ_3 (by decide)
  refine lv_pop hx hb dL_law_908 rfl ?_
  refine lv_aload_n hx hb dL_law_909 rfl (lv_at hl 1 rfl) ?_
  refine lv_aload_n hx hb dL_law_910 rfl (lv_at hl 3 rfl) ?_
  refine lv_iload_n hx hb dL_law_911 rfl (lv_at hl 0 rfl) ?_
  refine lv_iconst (v := 1) hx hb dL_law_912 (by decide) ?_
  refine lv_iadd hx hb dL_law_913 ?_
  refine lv_topi (fun x_7 ex_7 => ?_)
  have vx_7 := b_add (rfl : i.toInt = _) (by decide : (1 : Int32).toInt = 1) ex_7 (by omega) (by omega)
  refine va_sld hx hb hX hbl hbA hS (i_in (by omega) (by omega)) dL_law_914 ?_
  refine tp_i (w := xs (i.toInt.toNat + 1)) (by rw [show x_7.toNatClampNeg = i.toInt.toNat + 1 from (by have hn : x_7.toNatClampNeg = x_7.toInt.toNat := rfl; omega)]) ?_
  refine lv_aload_n hx hb dL_law_915 rfl (lv_at hl 3 rfl) ?_
  refine lv_iload_n hx hb dL_law_916 rfl (lv_at hl 0 rfl) ?_
  refine lv_iconst (v := 2) hx hb dL_law_917 (by decide) ?_
  refine lv_iadd hx hb dL_law_918 ?_
  refine lv_topi (fun x_8 ex_8 => ?_)
  have vx_8 := b_add (rfl : i.toInt = _) (by decide : (2 : Int32).toInt = 2) ex_8 (by omega) (by omega)
  refine va_sld hx hb hX hbl hbA hS (i_in (by omega) (by omega)) dL_law_919 ?_
  refine tp_i (w := xs (i.toInt.toNat + 2)) (by rw [show x_8.toNatClampNeg = i.toInt.toNat + 2 from (by have hn : x_8.toNatClampNeg = x_8.toInt.toNat := rfl; omega)]) ?_
  refine t_ci (va_runV (As := [.int (xs (i.toInt.toNat + 1)), .int (xs (i.toInt.toNat + 2))]) (rest := []) ⟨hx, hb, hml, hown, hts⟩ (cy_X12_less l D cA L T r hG hLA.1 σ_3 ρ_4 hB.2.1 _ qm mqm tqm (xs (i.toInt.toNat + 1)) (xs (i.toInt.toNat + 2))) (cV hts mv_X12_less mw_7_234 rfl rfl ⟨Nat.le_of_ble_eq_true rfl, Nat.le_of_ble_eq_true rfl⟩) (pV hB.1 hK hN mqm tqm (show shp cA 12 _ _ _ = .inr (12, Fs12 _ _ _) from rfl) rfl) rfl rfl hl.1 rfl (lv_room (Nat.le_of_ble_eq_true rfl)) dL_law_920 ⟨Nat.le_of_ble_eq_true rfl, Nat.le_of_ble_eq_true rfl⟩) hLA hA hB hS (by decide) (fun x_11 σ_9 ρ_10 H locs hB fσ_9 pσ_9 hS => ?_)
  have hI_12 : LI σ_9 qx bw w0 w1 w2 w3 qm bg bk bc bx bi bf := LI.fr hLG hI_6 fσ_9 (by decide)
  refine lv_pop hx hb dL_law_923 rfl ?_
  refine lv_goto (tgt := 1240) hx hb dL_law_924 (by decide) ?_
  exact kk _ _ _ _ hB hI_12 hS
theorem mw_5_99 : (.instanceMethod yX11_rich : Cond) ∈ wsA := wsA_t (List.mem_append_right _ (List.mem_append_right _ (List.mem_append_right _ (List.mem_append_right _ (List.mem_append_left _ (List.mem_of_getElem? (l := tables_1_5) (i := 99) rfl)))))) rfl
theorem mw_5_100 : (.selects RX11 yX11_rich yX11_rich : Cond) ∈ wsA := wsA_t (List.mem_append_right _ (List.mem_append_right _ (List.mem_append_right _ (List.mem_append_right _ (List.mem_append_left _ (List.mem_of_getElem? (l := tables_1_5) (i := 100) rfl)))))) rfl
theorem mw_5_101 : (.code yX11_rich cX11_rich 6 (some .int) : Cond) ∈ wsA := wsA_t (List.mem_append_right _ (List.mem_append_right _ (List.mem_append_right _ (List.mem_append_right _ (List.mem_append_left _ (List.mem_of_getElem? (l := tables_1_5) (i := 101) rfl)))))) rfl
theorem mw_5_98 : (.methodLink RL 118 yX11_rich : Cond) ∈ wsA := wsA_t (List.mem_append_right _ (List.mem_append_right _ (List.mem_append_right _ (List.mem_append_right _ (List.mem_append_left _ (List.mem_of_getElem? (l := tables_1_5) (i := 98) rfl)))))) rfl
theorem mw_8_47 : (.instanceMethod yX12_rich : Cond) ∈ wsA := wsA_t (List.mem_append_right _ (List.mem_append_right _ (List.mem_append_right _ (List.mem_append_right _ (List.mem_append_right _ (List.mem_append_right _ (List.mem_append_right _ (List.mem_of_getElem? (l := tables_1_8) (i := 47) rfl)))))))) rfl
theorem mw_8_48 : (.selects RX12 yX12_rich yX12_rich : Cond) ∈ wsA := wsA_t (List.mem_append_right _ (List.mem_append_right _ (List.mem_append_right _ (List.mem_append_right _ (List.mem_append_right _ (List.mem_append_right _ (List.mem_append_right _ (List.mem_of_getElem? (l := tables_1_8) (i := 48) rfl)))))))) rfl
theorem mw_8_49 : (.code yX12_rich cX12_rich 7 (some .int) : Cond) ∈ wsA := wsA_t (List.mem_append_right _ (List.mem_append_right _ (List.mem_append_right _ (List.mem_append_right _ (List.mem_append_right _ (List.mem_append_right _ (List.mem_append_right _ (List.mem_of_getElem? (l := tables_1_8) (i := 49) rfl)))))))) rfl
theorem mw_8_46 : (.methodLink RL 121 yX12_rich : Cond) ∈ wsA := wsA_t (List.mem_append_right _ (List.mem_append_right _ (List.mem_append_right _ (List.mem_append_right _ (List.mem_append_right _ (List.mem_append_right _ (List.mem_append_right _ (List.mem_of_getElem? (l := tables_1_8) (i := 46) rfl)))))))) rfl
theorem dL_law_927 : decode cL_law 927 = .ok (.aload_n 1, 1) := by decide +kernel
theorem dL_law_928 : decode cL_law 928 = .ok (.aload_n 0, 1) := by decide +kernel
theorem dL_law_929 : decode cL_law 929 = .ok (.iload_n 3, 1) := by decide +kernel
theorem dL_law_930 : decode cL_law 930 = .ok (.iconst 1, 1) := by decide +kernel
theorem dL_law_931 : decode cL_law 931 = .ok (.iadd, 1) := by decide +kernel
theorem dL_law_932 : decode cL_law 932 = .ok (.iaload, 1) := by decide +kernel
theorem dL_law_933 : decode cL_law 933 = .ok (.invokevirtual 118, 3) := by decide +kernel
theorem dL_law_936 : decode cL_law 936 = .ok (.pop, 1) := by decide +kernel
theorem dL_law_937 : decode cL_law 937 = .ok (.aload_n 2, 1) := by decide +kernel
theorem dL_law_938 : decode cL_law 938 = .ok (.aload_n 0, 1) := by decide +kernel
theorem dL_law_939 : decode cL_law 939 = .ok (.iload_n 3, 1) := by decide +kernel
theorem dL_law_940 : decode cL_law 940 = .ok (.iconst 1, 1) := by decide +kernel
theorem dL_law_941 : decode cL_law 941 = .ok (.iadd, 1) := by decide +kernel
theorem dL_law_942 : decode cL_law 942 = .ok (.iaload, 1) := by decide +kernel
theorem dL_law_943 : decode cL_law 943 = .ok (.invokevirtual 121, 3) := by decide +kernel
theorem dL_law_946 : decode cL_law 946 = .ok (.pop, 1) := by decide +kernel
theorem dL_law_947 : decode cL_law 947 = .ok (.goto 293, 3) := by decide +kernel
theorem mv_X11_rich : MV RX11 yX11_rich cX11_rich 6 (some .int) 1 := ⟨mw_5_99, mw_5_100, mw_1_1, mw_5_101, ⟨rfl, by decide, by decide, by decide +kernel⟩⟩
theorem mv_X12_rich : MV RX12 yX12_rich cX12_rich 7 (some .int) 1 := ⟨mw_8_47, mw_8_48, mw_1_13, mw_8_49, ⟨rfl, by decide, by decide, by decide +kernel⟩⟩
set_option maxHeartbeats 4000000 in
set_option maxRecDepth 100000 in
theorem law_c25 {p : Program} {e : Env} {s : State} {m : MethodId} {below : List Frame} {meth : Method} {c : Code} (l : Launch) {b Ls : Nat} {xs : Nat → Int32} (hLs : Ls ≤ 3072) (hx : p.tables.exec = Jvm.exec) (hb : c.code = code) (hr : meth.sig.returnType = ret) (hml : c.maxLocals = 4) (hown : s.vm.findClass RL = some m.cls) (hts : ∀ w ∈ wsA, w.before #[Value.ref b] s = true) (hX : va_X b Ls xs s s.heap) (hbl : b < s.heap.size) (hlocks : meth.locks = false) (D : va_G) (cA : Nat → ClassId) (hK : va_K D vwCl (tyA cA) s) (hN : NW s) (adK adV : Nat → Nat) (L : List Nat) (T : Nat → Nat) (r : Rg) (hLA : LA (fun q : Nat => s.heap.size ≤ q) L) (hG : GR L T r) (hV : SWL adK adV L s) (qx : Nat) (mqx : qx ∈ L) (tqx : T qx = 11) (bw : Nat) (mbw : bw ∈ L) (tbw : T bw = 10) (w0 : Nat) (mw0 : w0 ∈ L) (tw0 : T w0 = 13) (w1 : Nat) (mw1 : w1 ∈ L) (tw1 : T w1 = 14) (w2 : Nat) (mw2 : w2 ∈ L) (tw2 : T w2 = 15) (w3 : Nat) (mw3 : w3 ∈ L) (tw3 : T w3 = 16) (qm : Nat) (mqm : qm ∈ L) (tqm : T qm = 12) (bg : Nat) (mbg : bg ∈ L) (tbg : T bg = 62) (bk : Nat) (mbk : bk ∈ L) (tbk : T bk = 64) (bc : Nat) (mbc : bc ∈ L) (tbc : T bc = 65) (bx : Nat) (mbx : bx ∈ L) (tbx : T bx = 84) (bi : Nat) (mbi : bi ∈ L) (tbi : T bi = 85) (bf : Nat) (mbf : bf ∈ L) (tbf : T bf = 83) (ba : Nat) (mba : ba ∈ L) (tba : T ba = 60) (hbw : r qx 3 = some bw) (hba : r qx 4 = some ba) (hbg : r qm 3 = some bg) (hbk : r qm 5 = some bk) (hbc : r qm 6 = some bc) (hbx : r qm 42 = some bx) (hbi : r qm 43 = some bi) (hbf : r qm 41 = some bf) (hw0 : r ba 0 = some w0) (hw1 : r ba 1 = some w1) (hw2 : r ba 2 = some w2) (hw3 : r ba 3 = some w3) (hLG : LG T qx bw w0 w1 w2 w3 qm bg bk bc bx bi bf) (i : Int32) (li : 0 ≤ i.toInt) (ui : i.toInt ≤ 3066) (vi : i.toInt + 6 ≤ Ls) (σ0 σ : Sg) (ρ : Lg) (H : Heap) (hB : TS D cA L T r ry msL σ0 σ ρ H) (hI : LI σ qx bw w0 w1 w2 w3 qm bg bk bc bx bi bf) (locs : List Loc) (hS : va_S (fun q : Nat => s.heap.size ≤ q) s.heap H locs) (ls : Array Slot) (hl : lv_has ls 4 [(3, .int i), (2, .ref qm), (1, .ref qx), (0, .ref b)]) (kk : ∀ (σ2 : Sg) (ρ2 : Lg) (H : Heap) (locs : List Loc), TS D cA L T r ry msL σ0 σ2 ρ2 H → LI σ2 qx bw w0 w1 w2 w3 qm bg bk bc bx bi bf → va_S (fun q : Nat => s.heap.size ≤ q) s.heap H locs → W p l e room_1 s m #[Value.ref b] below meth c H locs 378 16064 (lw_Z below #[Value.ref b] s) (F0 m 1240 ls [])) : W p l e room_1 s m #[Value.ref b] below meth c H locs 378 16064 (lw_Z below #[Value.ref b] s) (F0 m 927 ls []) := by
  have hA : ∀ q : Nat, s.heap.size ≤ q → (fun q : Nat => s.heap.size ≤ q) q := fun _ h => h
  have hbA : ¬ (fun q : Nat => s.heap.size ≤ q) b := Nat.not_le.mpr hbl
  refine lv_aload_n hx hb dL_law_927 rfl (lv_at hl 2 rfl) ?_
  refine lv_aload_n hx hb dL_law_928 rfl (lv_at hl 3 rfl) ?_
  refine lv_iload_n hx hb dL_law_929 rfl (lv_at hl 0 rfl) ?_
  refine lv_iconst (v := 1) hx hb dL_law_930 (by decide) ?_
  refine lv_iadd hx hb dL_law_931 ?_
  refine lv_topi (fun x_1 ex_1 => ?_)
  have vx_1 := b_add (rfl : i.toInt = _) (by decide : (1 : Int32).toInt = 1) ex_1 (by omega) (by omega)
  refine va_sld hx hb hX hbl hbA hS (i_in (by omega) (by omega)) dL_law_932 ?_
  refine tp_i (w := xs (i.toInt.toNat + 1)) (by rw [show x_1.toNatClampNeg = i.toInt.toNat + 1 from (by have hn : x_1.toNatClampNeg = x_1.toInt.toNat := rfl; omega)]) ?_
  refine t_ci (va_runV (As := [.int (xs (i.toInt.toNat + 1))]) (rest := []) ⟨hx, hb, hml, hown, hts⟩ (cy_X11_rich l D cA L T r hG hLA.1 σ ρ hB.2.1 _ qx mqx tqx (xs (i.toInt.toNat + 1))) (cV hts mv_X11_rich mw_5_98 rfl rfl ⟨Nat.le_of_ble_eq_true rfl, Nat.le_of_ble_eq_true rfl⟩) (pV hB.1 hK hN mqx tqx (show shp cA 11 _ _ _ = .inr (11, Fs11 _ _ _) from rfl) rfl) rfl rfl hl.1 rfl (lv_room (Nat.le_of_ble_eq_true rfl)) dL_law_933 ⟨Nat.le_of_ble_eq_true rfl, Nat.le_of_ble_eq_true rfl⟩) hLA hA hB hS (by decide) (fun x_4 σ_2 ρ_3 H locs hB fσ_2 pσ_2 hS => ?_)
  have hI_5 : LI σ_2 qx bw w0 w1 w2 w3 qm bg bk bc bx bi bf := LI.fr hLG hI fσ_2 (by decide)
  refine lv_pop hx hb dL_law_936 rfl ?_
  refine lv_aload_n hx hb dL_law_937 rfl (lv_at hl 1 rfl) ?_
  refine lv_aload_n hx hb dL_law_938 rfl (lv_at hl 3 rfl) ?_
  refine lv_iload_n hx hb dL_law_939 rfl (lv_at hl 0 rfl) ?_
  refine lv_iconst (v := 1) hx hb dL_law_940 (by decide) ?_
  refine lv_iadd hx hb dL_law_941 ?_
  refine lv_topi (fun x_6 ex_6 => ?_)
  have vx_6 := b_add (rfl : i.toInt = _) (by decide : (1 : Int32).toInt = 1) ex_6 (by omega) (by omega)
  refine va_sld hx hb hX hbl hbA hS (i_in (by omega) (by omega)) dL_law_942 ?_
  refine tp_i (w := xs (i.toInt.toNat + 1)) (by rw [show x_6.toNatClampNeg = i.toInt.toNat + 1 from (by have hn : x_6.toNatClampNeg = x_6.toInt.toNat := rfl; omega)]) ?_
  refine t_ci (va_runV (As := [.int (xs (i.toInt.toNat + 1))]) (rest := []) ⟨hx, hb, hml, hown, hts⟩ (cy_X12_rich l D cA L T r hG hLA.1 σ_2 ρ_3 hB.2.1 _ qm mqm tqm (xs (i.toInt.toNat + 1))) (cV hts mv_X12_rich mw_8_46 rfl rfl ⟨Nat.le_of_ble_eq_true rfl, Nat.le_of_ble_eq_true rfl⟩) (pV hB.1 hK hN mqm tqm (show shp cA 12 _ _ _ = .inr (12, Fs12 _ _ _) from rfl) rfl) rfl rfl hl.1 rfl (lv_room (Nat.le_of_ble_eq_true rfl)) dL_law_943 ⟨Nat.le_of_ble_eq_true rfl, Nat.le_of_ble_eq_true rfl⟩) hLA hA hB hS (by decide) (fun x_9 σ_7 ρ_8 H locs hB fσ_7 pσ_7 hS => ?_)
  have hI_10 : LI σ_7 qx bw w0 w1 w2 w3 qm bg bk bc bx bi bf := LI.fr hLG hI_5 fσ_7 (by decide)
  refine lv_pop hx hb dL_law_946 rfl ?_
  refine lv_goto (tgt := 1240) hx hb dL_law_947 (by decide) ?_
  exact kk _ _ _ _ hB hI_10 hS
theorem mw_5_107 : (.instanceMethod yX11_leaves : Cond) ∈ wsA := wsA_t (List.mem_append_right _ (List.mem_append_right _ (List.mem_append_right _ (List.mem_append_right _ (List.mem_append_left _ (List.mem_of_getElem? (l := tables_1_5) (i := 107) rfl)))))) rfl
theorem mw_5_108 : (.selects RX11 yX11_leaves yX11_leaves : Cond) ∈ wsA := wsA_t (List.mem_append_right _ (List.mem_append_right _ (List.mem_append_right _ (List.mem_append_right _ (List.mem_append_left _ (List.mem_of_getElem? (l := tables_1_5) (i := 108) rfl)))))) rfl
theorem mw_5_109 : (.code yX11_leaves cX11_leaves 4 (some .int) : Cond) ∈ wsA := wsA_t (List.mem_append_right _ (List.mem_append_right _ (List.mem_append_right _ (List.mem_append_right _ (List.mem_append_left _ (List.mem_of_getElem? (l := tables_1_5) (i := 109) rfl)))))) rfl
theorem mw_5_106 : (.methodLink RL 122 yX11_leaves : Cond) ∈ wsA := wsA_t (List.mem_append_right _ (List.mem_append_right _ (List.mem_append_right _ (List.mem_append_right _ (List.mem_append_left _ (List.mem_of_getElem? (l := tables_1_5) (i := 106) rfl)))))) rfl
theorem mw_8_55 : (.instanceMethod yX12_leaves : Cond) ∈ wsA := wsA_t (List.mem_append_right _ (List.mem_append_right _ (List.mem_append_right _ (List.mem_append_right _ (List.mem_append_right _ (List.mem_append_right _ (List.mem_append_right _ (List.mem_of_getElem? (l := tables_1_8) (i := 55) rfl)))))))) rfl
theorem mw_8_56 : (.selects RX12 yX12_leaves yX12_leaves : Cond) ∈ wsA := wsA_t (List.mem_append_right _ (List.mem_append_right _ (List.mem_append_right _ (List.mem_append_right _ (List.mem_append_right _ (List.mem_append_right _ (List.mem_append_right _ (List.mem_of_getElem? (l := tables_1_8) (i := 56) rfl)))))))) rfl
theorem mw_8_57 : (.code yX12_leaves cX12_leaves 4 (some .int) : Cond) ∈ wsA := wsA_t (List.mem_append_right _ (List.mem_append_right _ (List.mem_append_right _ (List.mem_append_right _ (List.mem_append_right _ (List.mem_append_right _ (List.mem_append_right _ (List.mem_of_getElem? (l := tables_1_8) (i := 57) rfl)))))))) rfl
theorem mw_8_54 : (.methodLink RL 125 yX12_leaves : Cond) ∈ wsA := wsA_t (List.mem_append_right _ (List.mem_append_right _ (List.mem_append_right _ (List.mem_append_right _ (List.mem_append_right _ (List.mem_append_right _ (List.mem_append_right _ (List.mem_of_getElem? (l := tables_1_8) (i := 54) rfl)))))))) rfl
theorem dL_law_950 : decode cL_law 950 = .ok (.aload_n 1, 1) := by decide +kernel
theorem dL_law_951 : decode cL_law 951 = .ok (.aload_n 0, 1) := by decide +kernel
theorem dL_law_952 : decode cL_law 952 = .ok (.iload_n 3, 1) := by decide +kernel
theorem dL_law_953 : decode cL_law 953 = .ok (.iconst 1, 1) := by decide +kernel
theorem dL_law_954 : decode cL_law 954 = .ok (.iadd, 1) := by decide +kernel
theorem dL_law_955 : decode cL_law 955 = .ok (.iaload, 1) := by decide +kernel
theorem dL_law_956 : decode cL_law 956 = .ok (.aload_n 0, 1) := by decide +kernel
theorem dL_law_957 : decode cL_law 957 = .ok (.iload_n 3, 1) := by decide +kernel
theorem dL_law_958 : decode cL_law 958 = .ok (.iconst 2, 1) := by decide +kernel
theorem dL_law_959 : decode cL_law 959 = .ok (.iadd, 1) := by decide +kernel
theorem dL_law_960 : decode cL_law 960 = .ok (.iaload, 1) := by decide +kernel
theorem dL_law_961 : decode cL_law 961 = .ok (.invokevirtual 122, 3) := by decide +kernel
theorem dL_law_964 : decode cL_law 964 = .ok (.pop, 1) := by decide +kernel
theorem dL_law_965 : decode cL_law 965 = .ok (.aload_n 2, 1) := by decide +kernel
theorem dL_law_966 : decode cL_law 966 = .ok (.aload_n 0, 1) := by decide +kernel
theorem dL_law_967 : decode cL_law 967 = .ok (.iload_n 3, 1) := by decide +kernel
theorem dL_law_968 : decode cL_law 968 = .ok (.iconst 1, 1) := by decide +kernel
theorem dL_law_969 : decode cL_law 969 = .ok (.iadd, 1) := by decide +kernel
theorem dL_law_970 : decode cL_law 970 = .ok (.iaload, 1) := by decide +kernel
theorem dL_law_971 : decode cL_law 971 = .ok (.aload_n 0, 1) := by decide +kernel
theorem dL_law_972 : decode cL_law 972 = .ok (.iload_n 3, 1) := by decide +kernel
theorem dL_law_973 : decode cL_law 973 = .ok (.iconst 2, 1) := by decide +kernel
theorem dL_law_974 : decode cL_law 974 = .ok (.iadd, 1) := by decide +kernel
theorem dL_law_975 : decode cL_law 975 = .ok (.iaload, 1) := by decide +kernel
theorem dL_law_976 : decode cL_law 976 = .ok (.invokevirtual 125, 3) := by decide +kernel
theorem dL_law_979 : decode cL_law 979 = .ok (.pop, 1) := by decide +kernel
theorem dL_law_980 : decode cL_law 980 = .ok (.goto 260, 3) := by decide +kernel
theorem mv_X11_leaves : MV RX11 yX11_leaves cX11_leaves 4 (some .int) 2 := ⟨mw_5_107, mw_5_108, mw_1_1, mw_5_109, ⟨rfl, by decide, by decide, by decide +kernel⟩⟩
theorem mv_X12_leaves : MV RX12 yX12_leaves cX12_leaves 4 (some .int) 2 := ⟨mw_8_55, mw_8_56, mw_1_13, mw_8_57, ⟨rfl, by decide, by decide, by decide +kernel⟩⟩
set_option maxHeartbeats 4000000 in
set_option maxRecDepth 100000 in
theorem law_c26 {p : Program} {e : Env} {s : State} {m : MethodId} {below : List Frame} {meth : Method} {c : Code} (l : Launch) {b Ls : Nat} {xs : Nat → Int32} (hLs : Ls ≤ 3072) (hx : p.tables.exec = Jvm.exec) (hb : c.code = code) (hr : meth.sig.returnType = ret) (hml : c.maxLocals = 4) (hown : s.vm.findClass RL = some m.cls) (hts : ∀ w ∈ wsA, w.before #[Value.ref b] s = true) (hX : va_X b Ls xs s s.heap) (hbl : b < s.heap.size) (hlocks : meth.locks = false) (D : va_G) (cA : Nat → ClassId) (hK : va_K D vwCl (tyA cA) s) (hN : NW s) (adK adV : Nat → Nat) (L : List Nat) (T : Nat → Nat) (r : Rg) (hLA : LA (fun q : Nat => s.heap.size ≤ q) L) (hG : GR L T r) (hV : SWL adK adV L s) (qx : Nat) (mqx : qx ∈ L) (tqx : T qx = 11) (bw : Nat) (mbw : bw ∈ L) (tbw : T bw = 10) (w0 : Nat) (mw0 : w0 ∈ L) (tw0 : T w0 = 13) (w1 : Nat) (mw1 : w1 ∈ L) (tw1 : T w1 = 14) (w2 : Nat) (mw2 : w2 ∈ L) (tw2 : T w2 = 15) (w3 : Nat) (mw3 : w3 ∈ L) (tw3 : T w3 = 16) (qm : Nat) (mqm : qm ∈ L) (tqm : T qm = 12) (bg : Nat) (mbg : bg ∈ L) (tbg : T bg = 62) (bk : Nat) (mbk : bk ∈ L) (tbk : T bk = 64) (bc : Nat) (mbc : bc ∈ L) (tbc : T bc = 65) (bx : Nat) (mbx : bx ∈ L) (tbx : T bx = 84) (bi : Nat) (mbi : bi ∈ L) (tbi : T bi = 85) (bf : Nat) (mbf : bf ∈ L) (tbf : T bf = 83) (ba : Nat) (mba : ba ∈ L) (tba : T ba = 60) (hbw : r qx 3 = some bw) (hba : r qx 4 = some ba) (hbg : r qm 3 = some bg) (hbk : r qm 5 = some bk) (hbc : r qm 6 = some bc) (hbx : r qm 42 = some bx) (hbi : r qm 43 = some bi) (hbf : r qm 41 = some bf) (hw0 : r ba 0 = some w0) (hw1 : r ba 1 = some w1) (hw2 : r ba 2 = some w2) (hw3 : r ba 3 = some w3) (hLG : LG T qx bw w0 w1 w2 w3 qm bg bk bc bx bi bf) (i : Int32) (li : 0 ≤ i.toInt) (ui : i.toInt ≤ 3066) (vi : i.toInt + 6 ≤ Ls) (σ0 σ : Sg) (ρ : Lg) (H : Heap) (hB : TS D cA L T r ry msL σ0 σ ρ H) (hI : LI σ qx bw w0 w1 w2 w3 qm bg bk bc bx bi bf) (locs : List Loc) (hS : va_S (fun q : Nat => s.heap.size ≤ q) s.heap H locs) (ls : Array Slot) (hl : lv_has ls 4 [(3, .int i), (2, .ref qm), (1, .ref qx), (0, .ref b)]) (kk : ∀ (σ2 : Sg) (ρ2 : Lg) (H : Heap) (locs : List Loc), TS D cA L T r ry msL σ0 σ2 ρ2 H → LI σ2 qx bw w0 w1 w2 w3 qm bg bk bc bx bi bf → va_S (fun q : Nat => s.heap.size ≤ q) s.heap H locs → W p l e room_1 s m #[Value.ref b] below meth c H locs 378 16064 (lw_Z below #[Value.ref b] s) (F0 m 1240 ls [])) : W p l e room_1 s m #[Value.ref b] below meth c H locs 378 16064 (lw_Z below #[Value.ref b] s) (F0 m 950 ls []) := by
  have hA : ∀ q : Nat, s.heap.size ≤ q → (fun q : Nat => s.heap.size ≤ q) q := fun _ h => h
  have hbA : ¬ (fun q : Nat => s.heap.size ≤ q) b := Nat.not_le.mpr hbl
  refine lv_aload_n hx hb dL_law_950 rfl (lv_at hl 2 rfl) ?_
  refine lv_aload_n hx hb dL_law_951 rfl (lv_at hl 3 rfl) ?_
  refine lv_iload_n hx hb dL_law_952 rfl (lv_at hl 0 rfl) ?_
  refine lv_iconst (v := 1) hx hb dL_law_953 (by decide) ?_
  refine lv_iadd hx hb dL_law_954 ?_
  refine lv_topi (fun x_1 ex_1 => ?_)
  have vx_1 := b_add (rfl : i.toInt = _) (by decide : (1 : Int32).toInt = 1) ex_1 (by omega) (by omega)
  refine va_sld hx hb hX hbl hbA hS (i_in (by omega) (by omega)) dL_law_955 ?_
  refine tp_i (w := xs (i.toInt.toNat + 1)) (by rw [show x_1.toNatClampNeg = i.toInt.toNat + 1 from (by have hn : x_1.toNatClampNeg = x_1.toInt.toNat := rfl; omega)]) ?_
  refine lv_aload_n hx hb dL_law_956 rfl (lv_at hl 3 rfl) ?_
  refine lv_iload_n hx hb dL_law_957 rfl (lv_at hl 0 rfl) ?_
  refine lv_iconst (v := 2) hx hb dL_law_958 (by decide) ?_
  refine lv_iadd hx hb dL_law_959 ?_
  refine lv_topi (fun x_2 ex_2 => ?_)
  have vx_2 := b_add (rfl : i.toInt = _) (by decide : (2 : Int32).toInt = 2) ex_2 (by omega) (by omega)
  refine va_sld hx hb hX hbl hbA hS (i_in (by omega) (by omega)) dL_law_960 ?_
  refine tp_i (w := xs (i.toInt.toNat + 2)) (by rw [show x_2.toNatClampNeg = i.toInt.toNat + 2 from (by have hn : x_2.toNatClampNeg = x_2.toInt.toNat := rfl; omega)]) ?_
  refine t_ci (va_runV (As := [.int (xs (i.toInt.toNat + 1)), .int (xs (i.toInt.toNat + 2))]) (rest := []) ⟨hx, hb, hml, hown, hts⟩ (cy_X11_leaves l D cA L T r hG hLA.1 σ ρ hB.2.1 _ qx mqx tqx (xs (i.toInt.toNat + 1)) (xs (i.toInt.toNat + 2))) (cV hts mv_X11_leaves mw_5_106 rfl rfl ⟨Nat.le_of_ble_eq_true rfl, Nat.le_of_ble_eq_true rfl⟩) (pV hB.1 hK hN mqx tqx (show shp cA 11 _ _ _ = .inr (11, Fs11 _ _ _) from rfl) rfl) rfl rfl hl.1 rfl (lv_room (Nat.le_of_ble_eq_true rfl)) dL_law_961 ⟨Nat.le_of_ble_eq_true rfl, Nat.le_of_ble_eq_true rfl⟩) hLA hA hB hS (by decide) (fun x_5 σ_3 ρ_4 H locs hB fσ_3 pσ_3 hS => ?_)
  have hI_6 : LI σ_3 qx bw w0 w1 w2 w3 qm bg bk bc bx bi bf := LI.fr hLG hI fσ_3 (by decide)
  refine lv_pop hx hb dL_law_964 rfl ?_
  refine lv_aload_n hx hb dL_law_965 rfl (lv_at hl 1 rfl) ?_
  refine lv_aload_n hx hb dL_law_966 rfl (lv_at hl 3 rfl) ?_
  refine lv_iload_n hx hb dL_law_967 rfl (lv_at hl 0 rfl) ?_
  refine lv_iconst (v := 1) hx hb dL_law_968 (by decide) ?_
  refine lv_iadd hx hb dL_law_969 ?_
  refine lv_topi (fun x_7 ex_7 => ?_)
  have vx_7 := b_add (rfl : i.toInt = _) (by decide : (1 : Int32).toInt = 1) ex_7 (by omega) (by omega)
  refine va_sld hx hb hX hbl hbA hS (i_in (by omega) (by omega)) dL_law_970 ?_
  refine tp_i (w := xs (i.toInt.toNat + 1)) (by rw [show x_7.toNatClampNeg = i.toInt.toNat + 1 from (by have hn : x_7.toNatClampNeg = x_7.toInt.toNat := rfl; omega)]) ?_
  refine lv_aload_n hx hb dL_law_971 rfl (lv_at hl 3 rfl) ?_
  refine lv_iload_n hx hb dL_law_972 rfl (lv_at hl 0 rfl) ?_
  refine lv_iconst (v := 2) hx hb dL_law_973 (by decide) ?_
  refine lv_iadd hx hb dL_law_974 ?_
  refine lv_topi (fun x_8 ex_8 => ?_)
  have vx_8 := b_add (rfl : i.toInt = _) (by decide : (2 : Int32).toInt = 2) ex_8 (by omega) (by omega)
  refine va_sld hx hb hX hbl hbA hS (i_in (by omega) (by omega)) dL_law_975 ?_
  refine tp_i (w := xs (i.toInt.toNat + 2)) (by rw [show x_8.toNatClampNeg = i.toInt.toNat + 2 from (by have hn : x_8.toNatClampNeg = x_8.toInt.toNat := rfl; omega)]) ?_
  refine t_ci (va_runV (As := [.int (xs (i.toInt.toNat + 1)), .int (xs (i.toInt.toNat + 2))]) (rest := []) ⟨hx, hb, hml, hown, hts⟩ (cy_X12_leaves l D cA L T r hG hLA.1 σ_3 ρ_4 hB.2.1 _ qm mqm tqm (xs (i.toInt.toNat + 1)) (xs (i.toInt.toNat + 2))) (cV hts mv_X12_leaves mw_8_54 rfl rfl ⟨Nat.le_of_ble_eq_true rfl, Nat.le_of_ble_eq_true rfl⟩) (pV hB.1 hK hN mqm tqm (show shp cA 12 _ _ _ = .inr (12, Fs12 _ _ _) from rfl) rfl) rfl rfl hl.1 rfl (lv_room (Nat.le_of_ble_eq_true rfl)) dL_law_976 ⟨Nat.le_of_ble_eq_true rfl, Nat.le_of_ble_eq_true rfl⟩) hLA hA hB hS (by decide) (fun x_11 σ_9 ρ_10 H locs hB fσ_9 pσ_9 hS => ?_)
  have hI_12 : LI σ_9 qx bw w0 w1 w2 w3 qm bg bk bc bx bi bf := LI.fr hLG hI_6 fσ_9 (by decide)
  refine lv_pop hx hb dL_law_979 rfl ?_
  refine lv_goto (tgt := 1240) hx hb dL_law_980 (by decide) ?_
  exact kk _ _ _ _ hB hI_12 hS
theorem mw_5_111 : (.instanceMethod yX11_gifts : Cond) ∈ wsA := wsA_t (List.mem_append_right _ (List.mem_append_right _ (List.mem_append_right _ (List.mem_append_right _ (List.mem_append_left _ (List.mem_of_getElem? (l := tables_1_5) (i := 111) rfl)))))) rfl
theorem mw_5_112 : (.selects RX11 yX11_gifts yX11_gifts : Cond) ∈ wsA := wsA_t (List.mem_append_right _ (List.mem_append_right _ (List.mem_append_right _ (List.mem_append_right _ (List.mem_append_left _ (List.mem_of_getElem? (l := tables_1_5) (i := 112) rfl)))))) rfl
theorem mw_5_113 : (.code yX11_gifts cX11_gifts 5 (some .int) : Cond) ∈ wsA := wsA_t (List.mem_append_right _ (List.mem_append_right _ (List.mem_append_right _ (List.mem_append_right _ (List.mem_append_left _ (List.mem_of_getElem? (l := tables_1_5) (i := 113) rfl)))))) rfl
theorem mw_5_110 : (.methodLink RL 126 yX11_gifts : Cond) ∈ wsA := wsA_t (List.mem_append_right _ (List.mem_append_right _ (List.mem_append_right _ (List.mem_append_right _ (List.mem_append_left _ (List.mem_of_getElem? (l := tables_1_5) (i := 110) rfl)))))) rfl
theorem mw_8_59 : (.instanceMethod yX12_gifts : Cond) ∈ wsA := wsA_t (List.mem_append_right _ (List.mem_append_right _ (List.mem_append_right _ (List.mem_append_right _ (List.mem_append_right _ (List.mem_append_right _ (List.mem_append_right _ (List.mem_of_getElem? (l := tables_1_8) (i := 59) rfl)))))))) rfl
theorem mw_8_60 : (.selects RX12 yX12_gifts yX12_gifts : Cond) ∈ wsA := wsA_t (List.mem_append_right _ (List.mem_append_right _ (List.mem_append_right _ (List.mem_append_right _ (List.mem_append_right _ (List.mem_append_right _ (List.mem_append_right _ (List.mem_of_getElem? (l := tables_1_8) (i := 60) rfl)))))))) rfl
theorem mw_8_61 : (.code yX12_gifts cX12_gifts 4 (some .int) : Cond) ∈ wsA := wsA_t (List.mem_append_right _ (List.mem_append_right _ (List.mem_append_right _ (List.mem_append_right _ (List.mem_append_right _ (List.mem_append_right _ (List.mem_append_right _ (List.mem_of_getElem? (l := tables_1_8) (i := 61) rfl)))))))) rfl
theorem mw_8_58 : (.methodLink RL 129 yX12_gifts : Cond) ∈ wsA := wsA_t (List.mem_append_right _ (List.mem_append_right _ (List.mem_append_right _ (List.mem_append_right _ (List.mem_append_right _ (List.mem_append_right _ (List.mem_append_right _ (List.mem_of_getElem? (l := tables_1_8) (i := 58) rfl)))))))) rfl
theorem dL_law_983 : decode cL_law 983 = .ok (.aload_n 1, 1) := by decide +kernel
theorem dL_law_984 : decode cL_law 984 = .ok (.aload_n 0, 1) := by decide +kernel
theorem dL_law_985 : decode cL_law 985 = .ok (.iload_n 3, 1) := by decide +kernel
theorem dL_law_986 : decode cL_law 986 = .ok (.iconst 1, 1) := by decide +kernel
theorem dL_law_987 : decode cL_law 987 = .ok (.iadd, 1) := by decide +kernel
theorem dL_law_988 : decode cL_law 988 = .ok (.iaload, 1) := by decide +kernel
theorem dL_law_989 : decode cL_law 989 = .ok (.invokevirtual 126, 3) := by decide +kernel
theorem dL_law_992 : decode cL_law 992 = .ok (.pop, 1) := by decide +kernel
theorem dL_law_993 : decode cL_law 993 = .ok (.aload_n 2, 1) := by decide +kernel
theorem dL_law_994 : decode cL_law 994 = .ok (.aload_n 0, 1) := by decide +kernel
theorem dL_law_995 : decode cL_law 995 = .ok (.iload_n 3, 1) := by decide +kernel
theorem dL_law_996 : decode cL_law 996 = .ok (.iconst 1, 1) := by decide +kernel
theorem dL_law_997 : decode cL_law 997 = .ok (.iadd, 1) := by decide +kernel
theorem dL_law_998 : decode cL_law 998 = .ok (.iaload, 1) := by decide +kernel
theorem dL_law_999 : decode cL_law 999 = .ok (.invokevirtual 129, 3) := by decide +kernel
theorem dL_law_1002 : decode cL_law 1002 = .ok (.pop, 1) := by decide +kernel
theorem dL_law_1003 : decode cL_law 1003 = .ok (.goto 237, 3) := by decide +kernel
theorem mv_X11_gifts : MV RX11 yX11_gifts cX11_gifts 5 (some .int) 1 := ⟨mw_5_111, mw_5_112, mw_1_1, mw_5_113, ⟨rfl, by decide, by decide, by decide +kernel⟩⟩
theorem mv_X12_gifts : MV RX12 yX12_gifts cX12_gifts 4 (some .int) 1 := ⟨mw_8_59, mw_8_60, mw_1_13, mw_8_61, ⟨rfl, by decide, by decide, by decide +kernel⟩⟩
set_option maxHeartbeats 4000000 in
set_option maxRecDepth 100000 in
theorem law_c27 {p : Program} {e : Env} {s : State} {m : MethodId} {below : List Frame} {meth : Method} {c : Code} (l : Launch) {b Ls : Nat} {xs : Nat → Int32} (hLs : Ls ≤ 3072) (hx : p.tables.exec = Jvm.exec) (hb : c.code = code) (hr : meth.sig.returnType = ret) (hml : c.maxLocals = 4) (hown : s.vm.findClass RL = some m.cls) (hts : ∀ w ∈ wsA, w.before #[Value.ref b] s = true) (hX : va_X b Ls xs s s.heap) (hbl : b < s.heap.size) (hlocks : meth.locks = false) (D : va_G) (cA : Nat → ClassId) (hK : va_K D vwCl (tyA cA) s) (hN : NW s) (adK adV : Nat → Nat) (L : List Nat) (T : Nat → Nat) (r : Rg) (hLA : LA (fun q : Nat => s.heap.size ≤ q) L) (hG : GR L T r) (hV : SWL adK adV L s) (qx : Nat) (mqx : qx ∈ L) (tqx : T qx = 11) (bw : Nat) (mbw : bw ∈ L) (tbw : T bw = 10) (w0 : Nat) (mw0 : w0 ∈ L) (tw0 : T w0 = 13) (w1 : Nat) (mw1 : w1 ∈ L) (tw1 : T w1 = 14) (w2 : Nat) (mw2 : w2 ∈ L) (tw2 : T w2 = 15) (w3 : Nat) (mw3 : w3 ∈ L) (tw3 : T w3 = 16) (qm : Nat) (mqm : qm ∈ L) (tqm : T qm = 12) (bg : Nat) (mbg : bg ∈ L) (tbg : T bg = 62) (bk : Nat) (mbk : bk ∈ L) (tbk : T bk = 64) (bc : Nat) (mbc : bc ∈ L) (tbc : T bc = 65) (bx : Nat) (mbx : bx ∈ L) (tbx : T bx = 84) (bi : Nat) (mbi : bi ∈ L) (tbi : T bi = 85) (bf : Nat) (mbf : bf ∈ L) (tbf : T bf = 83) (ba : Nat) (mba : ba ∈ L) (tba : T ba = 60) (hbw : r qx 3 = some bw) (hba : r qx 4 = some ba) (hbg : r qm 3 = some bg) (hbk : r qm 5 = some bk) (hbc : r qm 6 = some bc) (hbx : r qm 42 = some bx) (hbi : r qm 43 = some bi) (hbf : r qm 41 = some bf) (hw0 : r ba 0 = some w0) (hw1 : r ba 1 = some w1) (hw2 : r ba 2 = some w2) (hw3 : r ba 3 = some w3) (hLG : LG T qx bw w0 w1 w2 w3 qm bg bk bc bx bi bf) (i : Int32) (li : 0 ≤ i.toInt) (ui : i.toInt ≤ 3066) (vi : i.toInt + 6 ≤ Ls) (σ0 σ : Sg) (ρ : Lg) (H : Heap) (hB : TS D cA L T r ry msL σ0 σ ρ H) (hI : LI σ qx bw w0 w1 w2 w3 qm bg bk bc bx bi bf) (locs : List Loc) (hS : va_S (fun q : Nat => s.heap.size ≤ q) s.heap H locs) (ls : Array Slot) (hl : lv_has ls 4 [(3, .int i), (2, .ref qm), (1, .ref qx), (0, .ref b)]) (kk : ∀ (σ2 : Sg) (ρ2 : Lg) (H : Heap) (locs : List Loc), TS D cA L T r ry msL σ0 σ2 ρ2 H → LI σ2 qx bw w0 w1 w2 w3 qm bg bk bc bx bi bf → va_S (fun q : Nat => s.heap.size ≤ q) s.heap H locs → W p l e room_1 s m #[Value.ref b] below meth c H locs 378 16064 (lw_Z below #[Value.ref b] s) (F0 m 1240 ls [])) : W p l e room_1 s m #[Value.ref b] below meth c H locs 378 16064 (lw_Z below #[Value.ref b] s) (F0 m 983 ls []) := by
  have hA : ∀ q : Nat, s.heap.size ≤ q → (fun q : Nat => s.heap.size ≤ q) q := fun _ h => h
  have hbA : ¬ (fun q : Nat => s.heap.size ≤ q) b := Nat.not_le.mpr hbl
  refine lv_aload_n hx hb dL_law_983 rfl (lv_at hl 2 rfl) ?_
  refine lv_aload_n hx hb dL_law_984 rfl (lv_at hl 3 rfl) ?_
  refine lv_iload_n hx hb dL_law_985 rfl (lv_at hl 0 rfl) ?_
  refine lv_iconst (v := 1) hx hb dL_law_986 (by decide) ?_
  refine lv_iadd hx hb dL_law_987 ?_
  refine lv_topi (fun x_1 ex_1 => ?_)
  have vx_1 := b_add (rfl : i.toInt = _) (by decide : (1 : Int32).toInt = 1) ex_1 (by omega) (by omega)
  refine va_sld hx hb hX hbl hbA hS (i_in (by omega) (by omega)) dL_law_988 ?_
  refine tp_i (w := xs (i.toInt.toNat + 1)) (by rw [show x_1.toNatClampNeg = i.toInt.toNat + 1 from (by have hn : x_1.toNatClampNeg = x_1.toInt.toNat := rfl; omega)]) ?_
  refine t_ci (va_runV (As := [.int (xs (i.toInt.toNat + 1))]) (rest := []) ⟨hx, hb, hml, hown, hts⟩ (cy_X11_gifts l D cA L T r hG hLA.1 σ ρ hB.2.1 _ qx mqx tqx (xs (i.toInt.toNat + 1))) (cV hts mv_X11_gifts mw_5_110 rfl rfl ⟨Nat.le_of_ble_eq_true rfl, Nat.le_of_ble_eq_true rfl⟩) (pV hB.1 hK hN mqx tqx (show shp cA 11 _ _ _ = .inr (11, Fs11 _ _ _) from rfl) rfl) rfl rfl hl.1 rfl (lv_room (Nat.le_of_ble_eq_true rfl)) dL_law_989 ⟨Nat.le_of_ble_eq_true rfl, Nat.le_of_ble_eq_true rfl⟩) hLA hA hB hS (by decide) (fun x_4 σ_2 ρ_3 H locs hB fσ_2 pσ_2 hS => ?_)
  have hI_5 : LI σ_2 qx bw w0 w1 w2 w3 qm bg bk bc bx bi bf := LI.fr hLG hI fσ_2 (by decide)
  refine lv_pop hx hb dL_law_992 rfl ?_
  refine lv_aload_n hx hb dL_law_993 rfl (lv_at hl 1 rfl) ?_
  refine lv_aload_n hx hb dL_law_994 rfl (lv_at hl 3 rfl) ?_
  refine lv_iload_n hx hb dL_law_995 rfl (lv_at hl 0 rfl) ?_
  refine lv_iconst (v := 1) hx hb dL_law_996 (by decide) ?_
  refine lv_iadd hx hb dL_law_997 ?_
  refine lv_topi (fun x_6 ex_6 => ?_)
  have vx_6 := b_add (rfl : i.toInt = _) (by decide : (1 : Int32).toInt = 1) ex_6 (by omega) (by omega)
  refine va_sld hx hb hX hbl hbA hS (i_in (by omega) (by omega)) dL_law_998 ?_
  refine tp_i (w := xs (i.toInt.toNat + 1)) (by rw [show x_6.toNatClampNeg = i.toInt.toNat + 1 from (by have hn : x_6.toNatClampNeg = x_6.toInt.toNat := rfl; omega)]) ?_
  refine t_ci (va_runV (As := [.int (xs (i.toInt.toNat + 1))]) (rest := []) ⟨hx, hb, hml, hown, hts⟩ (cy_X12_gifts l D cA L T r hG hLA.1 σ_2 ρ_3 hB.2.1 _ qm mqm tqm (xs (i.toInt.toNat + 1))) (cV hts mv_X12_gifts mw_8_58 rfl rfl ⟨Nat.le_of_ble_eq_true rfl, Nat.le_of_ble_eq_true rfl⟩) (pV hB.1 hK hN mqm tqm (show shp cA 12 _ _ _ = .inr (12, Fs12 _ _ _) from rfl) rfl) rfl rfl hl.1 rfl (lv_room (Nat.le_of_ble_eq_true rfl)) dL_law_999 ⟨Nat.le_of_ble_eq_true rfl, Nat.le_of_ble_eq_true rfl⟩) hLA hA hB hS (by decide) (fun x_9 σ_7 ρ_8 H locs hB fσ_7 pσ_7 hS => ?_)
  have hI_10 : LI σ_7 qx bw w0 w1 w2 w3 qm bg bk bc bx bi bf := LI.fr hLG hI_5 fσ_7 (by decide)
  refine lv_pop hx hb dL_law_1002 rfl ?_
  refine lv_goto (tgt := 1240) hx hb dL_law_1003 (by decide) ?_
  exact kk _ _ _ _ hB hI_10 hS
theorem mw_5_124 : (.instanceMethod yX11_note : Cond) ∈ wsA := wsA_t (List.mem_append_right _ (List.mem_append_right _ (List.mem_append_right _ (List.mem_append_right _ (List.mem_append_left _ (List.mem_of_getElem? (l := tables_1_5) (i := 124) rfl)))))) rfl
theorem mw_5_125 : (.selects RX11 yX11_note yX11_note : Cond) ∈ wsA := wsA_t (List.mem_append_right _ (List.mem_append_right _ (List.mem_append_right _ (List.mem_append_right _ (List.mem_append_left _ (List.mem_of_getElem? (l := tables_1_5) (i := 125) rfl)))))) rfl
theorem mw_5_126 : (.code yX11_note cX11_note 4 (some .int) : Cond) ∈ wsA := wsA_t (List.mem_append_right _ (List.mem_append_right _ (List.mem_append_right _ (List.mem_append_right _ (List.mem_append_left _ (List.mem_of_getElem? (l := tables_1_5) (i := 126) rfl)))))) rfl
theorem mw_5_123 : (.methodLink RL 130 yX11_note : Cond) ∈ wsA := wsA_t (List.mem_append_right _ (List.mem_append_right _ (List.mem_append_right _ (List.mem_append_right _ (List.mem_append_left _ (List.mem_of_getElem? (l := tables_1_5) (i := 123) rfl)))))) rfl
theorem mw_8_74 : (.instanceMethod yX12_note : Cond) ∈ wsA := wsA_t (List.mem_append_right _ (List.mem_append_right _ (List.mem_append_right _ (List.mem_append_right _ (List.mem_append_right _ (List.mem_append_right _ (List.mem_append_right _ (List.mem_of_getElem? (l := tables_1_8) (i := 74) rfl)))))))) rfl
theorem mw_8_75 : (.selects RX12 yX12_note yX12_note : Cond) ∈ wsA := wsA_t (List.mem_append_right _ (List.mem_append_right _ (List.mem_append_right _ (List.mem_append_right _ (List.mem_append_right _ (List.mem_append_right _ (List.mem_append_right _ (List.mem_of_getElem? (l := tables_1_8) (i := 75) rfl)))))))) rfl
theorem mw_8_76 : (.code yX12_note cX12_note 5 (some .int) : Cond) ∈ wsA := wsA_t (List.mem_append_right _ (List.mem_append_right _ (List.mem_append_right _ (List.mem_append_right _ (List.mem_append_right _ (List.mem_append_right _ (List.mem_append_right _ (List.mem_of_getElem? (l := tables_1_8) (i := 76) rfl)))))))) rfl
theorem mw_8_73 : (.methodLink RL 133 yX12_note : Cond) ∈ wsA := wsA_t (List.mem_append_right _ (List.mem_append_right _ (List.mem_append_right _ (List.mem_append_right _ (List.mem_append_right _ (List.mem_append_right _ (List.mem_append_right _ (List.mem_of_getElem? (l := tables_1_8) (i := 73) rfl)))))))) rfl
theorem dL_law_1006 : decode cL_law 1006 = .ok (.aload_n 1, 1) := by decide +kernel
theorem dL_law_1007 : decode cL_law 1007 = .ok (.aload_n 0, 1) := by decide +kernel
theorem dL_law_1008 : decode cL_law 1008 = .ok (.iload_n 3, 1) := by decide +kernel
theorem dL_law_1009 : decode cL_law 1009 = .ok (.iconst 1, 1) := by decide +kernel
theorem dL_law_1010 : decode cL_law 1010 = .ok (.iadd, 1) := by decide +kernel
theorem dL_law_1011 : decode cL_law 1011 = .ok (.iaload, 1) := by decide +kernel
theorem dL_law_1012 : decode cL_law 1012 = .ok (.aload_n 0, 1) := by decide +kernel
theorem dL_law_1013 : decode cL_law 1013 = .ok (.iload_n 3, 1) := by decide +kernel
theorem dL_law_1014 : decode cL_law 1014 = .ok (.iconst 2, 1) := by decide +kernel
theorem dL_law_1015 : decode cL_law 1015 = .ok (.iadd, 1) := by decide +kernel
theorem dL_law_1016 : decode cL_law 1016 = .ok (.iaload, 1) := by decide +kernel
theorem dL_law_1017 : decode cL_law 1017 = .ok (.aload_n 0, 1) := by decide +kernel
theorem dL_law_1018 : decode cL_law 1018 = .ok (.iload_n 3, 1) := by decide +kernel
theorem dL_law_1019 : decode cL_law 1019 = .ok (.iconst 3, 1) := by decide +kernel
theorem dL_law_1020 : decode cL_law 1020 = .ok (.iadd, 1) := by decide +kernel
theorem dL_law_1021 : decode cL_law 1021 = .ok (.iaload, 1) := by decide +kernel
theorem dL_law_1022 : decode cL_law 1022 = .ok (.invokevirtual 130, 3) := by decide +kernel
theorem dL_law_1025 : decode cL_law 1025 = .ok (.pop, 1) := by decide +kernel
theorem dL_law_1026 : decode cL_law 1026 = .ok (.aload_n 2, 1) := by decide +kernel
theorem dL_law_1027 : decode cL_law 1027 = .ok (.aload_n 0, 1) := by decide +kernel
theorem dL_law_1028 : decode cL_law 1028 = .ok (.iload_n 3, 1) := by decide +kernel
theorem dL_law_1029 : decode cL_law 1029 = .ok (.iconst 1, 1) := by decide +kernel
theorem dL_law_1030 : decode cL_law 1030 = .ok (.iadd, 1) := by decide +kernel
theorem dL_law_1031 : decode cL_law 1031 = .ok (.iaload, 1) := by decide +kernel
theorem dL_law_1032 : decode cL_law 1032 = .ok (.aload_n 0, 1) := by decide +kernel
theorem dL_law_1033 : decode cL_law 1033 = .ok (.iload_n 3, 1) := by decide +kernel
theorem dL_law_1034 : decode cL_law 1034 = .ok (.iconst 2, 1) := by decide +kernel
theorem dL_law_1035 : decode cL_law 1035 = .ok (.iadd, 1) := by decide +kernel
theorem dL_law_1036 : decode cL_law 1036 = .ok (.iaload, 1) := by decide +kernel
theorem dL_law_1037 : decode cL_law 1037 = .ok (.aload_n 0, 1) := by decide +kernel
theorem dL_law_1038 : decode cL_law 1038 = .ok (.iload_n 3, 1) := by decide +kernel
theorem dL_law_1039 : decode cL_law 1039 = .ok (.iconst 3, 1) := by decide +kernel
theorem dL_law_1040 : decode cL_law 1040 = .ok (.iadd, 1) := by decide +kernel
theorem dL_law_1041 : decode cL_law 1041 = .ok (.iaload, 1) := by decide +kernel
theorem dL_law_1042 : decode cL_law 1042 = .ok (.invokevirtual 133, 3) := by decide +kernel
theorem dL_law_1045 : decode cL_law 1045 = .ok (.pop, 1) := by decide +kernel
theorem dL_law_1046 : decode cL_law 1046 = .ok (.goto 194, 3) := by decide +kernel
theorem mv_X11_note : MV RX11 yX11_note cX11_note 4 (some .int) 3 := ⟨mw_5_124, mw_5_125, mw_1_1, mw_5_126, ⟨rfl, by decide, by decide, by decide +kernel⟩⟩
theorem mv_X12_note : MV RX12 yX12_note cX12_note 5 (some .int) 3 := ⟨mw_8_74, mw_8_75, mw_1_13, mw_8_76, ⟨rfl, by decide, by decide, by decide +kernel⟩⟩
set_option maxHeartbeats 4000000 in
set_option maxRecDepth 100000 in
theorem law_c28 {p : Program} {e : Env} {s : State} {m : MethodId} {below : List Frame} {meth : Method} {c : Code} (l : Launch) {b Ls : Nat} {xs : Nat → Int32} (hLs : Ls ≤ 3072) (hx : p.tables.exec = Jvm.exec) (hb : c.code = code) (hr : meth.sig.returnType = ret) (hml : c.maxLocals = 4) (hown : s.vm.findClass RL = some m.cls) (hts : ∀ w ∈ wsA, w.before #[Value.ref b] s = true) (hX : va_X b Ls xs s s.heap) (hbl : b < s.heap.size) (hlocks : meth.locks = false) (D : va_G) (cA : Nat → ClassId) (hK : va_K D vwCl (tyA cA) s) (hN : NW s) (adK adV : Nat → Nat) (L : List Nat) (T : Nat → Nat) (r : Rg) (hLA : LA (fun q : Nat => s.heap.size ≤ q) L) (hG : GR L T r) (hV : SWL adK adV L s) (qx : Nat) (mqx : qx ∈ L) (tqx : T qx = 11) (bw : Nat) (mbw : bw ∈ L) (tbw : T bw = 10) (w0 : Nat) (mw0 : w0 ∈ L) (tw0 : T w0 = 13) (w1 : Nat) (mw1 : w1 ∈ L) (tw1 : T w1 = 14) (w2 : Nat) (mw2 : w2 ∈ L) (tw2 : T w2 = 15) (w3 : Nat) (mw3 : w3 ∈ L) (tw3 : T w3 = 16) (qm : Nat) (mqm : qm ∈ L) (tqm : T qm = 12) (bg : Nat) (mbg : bg ∈ L) (tbg : T bg = 62) (bk : Nat) (mbk : bk ∈ L) (tbk : T bk = 64) (bc : Nat) (mbc : bc ∈ L) (tbc : T bc = 65) (bx : Nat) (mbx : bx ∈ L) (tbx : T bx = 84) (bi : Nat) (mbi : bi ∈ L) (tbi : T bi = 85) (bf : Nat) (mbf : bf ∈ L) (tbf : T bf = 83) (ba : Nat) (mba : ba ∈ L) (tba : T ba = 60) (hbw : r qx 3 = some bw) (hba : r qx 4 = some ba) (hbg : r qm 3 = some bg) (hbk : r qm 5 = some bk) (hbc : r qm 6 = some bc) (hbx : r qm 42 = some bx) (hbi : r qm 43 = some bi) (hbf : r qm 41 = some bf) (hw0 : r ba 0 = some w0) (hw1 : r ba 1 = some w1) (hw2 : r ba 2 = some w2) (hw3 : r ba 3 = some w3) (hLG : LG T qx bw w0 w1 w2 w3 qm bg bk bc bx bi bf) (i : Int32) (li : 0 ≤ i.toInt) (ui : i.toInt ≤ 3066) (vi : i.toInt + 6 ≤ Ls) (σ0 σ : Sg) (ρ : Lg) (H : Heap) (hB : TS D cA L T r ry msL σ0 σ ρ H) (hI : LI σ qx bw w0 w1 w2 w3 qm bg bk bc bx bi bf) (locs : List Loc) (hS : va_S (fun q : Nat => s.heap.size ≤ q) s.heap H locs) (ls : Array Slot) (hl : lv_has ls 4 [(3, .int i), (2, .ref qm), (1, .ref qx), (0, .ref b)]) (kk : ∀ (σ2 : Sg) (ρ2 : Lg) (H : Heap) (locs : List Loc), TS D cA L T r ry msL σ0 σ2 ρ2 H → LI σ2 qx bw w0 w1 w2 w3 qm bg bk bc bx bi bf → va_S (fun q : Nat => s.heap.size ≤ q) s.heap H locs → W p l e room_1 s m #[Value.ref b] below meth c H locs 378 16064 (lw_Z below #[Value.ref b] s) (F0 m 1240 ls [])) : W p l e room_1 s m #[Value.ref b] below meth c H locs 378 16064 (lw_Z below #[Value.ref b] s) (F0 m 1006 ls []) := by
  have hA : ∀ q : Nat, s.heap.size ≤ q → (fun q : Nat => s.heap.size ≤ q) q := fun _ h => h
  have hbA : ¬ (fun q : Nat => s.heap.size ≤ q) b := Nat.not_le.mpr hbl
  refine lv_aload_n hx hb dL_law_1006 rfl (lv_at hl 2 rfl) ?_
  refine lv_aload_n hx hb dL_law_1007 rfl (lv_at hl 3 rfl) ?_
  refine lv_iload_n hx hb dL_law_1008 rfl (lv_at hl 0 rfl) ?_
  refine lv_iconst (v := 1) hx hb dL_law_1009 (by decide) ?_
  refine lv_iadd hx hb dL_law_1010 ?_
  refine lv_topi (fun x_1 ex_1 => ?_)
  have vx_1 := b_add (rfl : i.toInt = _) (by decide : (1 : Int32).toInt = 1) ex_1 (by omega) (by omega)
  refine va_sld hx hb hX hbl hbA hS (i_in (by omega) (by omega)) dL_law_1011 ?_
  refine tp_i (w := xs (i.toInt.toNat + 1)) (by rw [show x_1.toNatClampNeg = i.toInt.toNat + 1 from (by have hn : x_1.toNatClampNeg = x_1.toInt.toNat := rfl; omega)]) ?_
  refine lv_aload_n hx hb dL_law_1012 rfl (lv_at hl 3 rfl) ?_
  refine lv_iload_n hx hb dL_law_1013 rfl (lv_at hl 0 rfl) ?_
  refine lv_iconst (v := 2) hx hb dL_law_1014 (by decide) ?_
  refine lv_iadd hx hb dL_law_1015 ?_
  refine lv_topi (fun x_2 ex_2 => ?_)
  have vx_2 := b_add (rfl : i.toInt = _) (by decide : (2 : Int32).toInt = 2) ex_2 (by omega) (by omega)
  refine va_sld hx hb hX hbl hbA hS (i_in (by omega) (by omega)) dL_law_1016 ?_
  refine tp_i (w := xs (i.toInt.toNat + 2)) (by rw [show x_2.toNatClampNeg = i.toInt.toNat + 2 from (by have hn : x_2.toNatClampNeg = x_2.toInt.toNat := rfl; omega)]) ?_
  refine lv_aload_n hx hb dL_law_1017 rfl (lv_at hl 3 rfl) ?_
  refine lv_iload_n hx hb dL_law_1018 rfl (lv_at hl 0 rfl) ?_
  refine lv_iconst (v := 3) hx hb dL_law_1019 (by decide) ?_
  refine lv_iadd hx hb dL_law_1020 ?_
  refine lv_topi (fun x_3 ex_3 => ?_)
  have vx_3 := b_add (rfl : i.toInt = _) (by decide : (3 : Int32).toInt = 3) ex_3 (by omega) (by omega)
  refine va_sld hx hb hX hbl hbA hS (i_in (by omega) (by omega)) dL_law_1021 ?_
  refine tp_i (w := xs (i.toInt.toNat + 3)) (by rw [show x_3.toNatClampNeg = i.toInt.toNat + 3 from (by have hn : x_3.toNatClampNeg = x_3.toInt.toNat := rfl; omega)]) ?_
  refine t_ci (va_runV (As := [.int (xs (i.toInt.toNat + 1)), .int (xs (i.toInt.toNat + 2)), .int (xs (i.toInt.toNat + 3))]) (rest := []) ⟨hx, hb, hml, hown, hts⟩ (cy_X11_note l D cA L T r hG hLA.1 σ ρ hB.2.1 _ qx mqx tqx (xs (i.toInt.toNat + 1)) (xs (i.toInt.toNat + 2)) (xs (i.toInt.toNat + 3))) (cV hts mv_X11_note mw_5_123 rfl rfl ⟨Nat.le_of_ble_eq_true rfl, Nat.le_of_ble_eq_true rfl⟩) (pV hB.1 hK hN mqx tqx (show shp cA 11 _ _ _ = .inr (11, Fs11 _ _ _) from rfl) rfl) rfl rfl hl.1 rfl (lv_room (Nat.le_of_ble_eq_true rfl)) dL_law_1022 ⟨Nat.le_of_ble_eq_true rfl, Nat.le_of_ble_eq_true rfl⟩) hLA hA hB hS (by decide) (fun x_6 σ_4 ρ_5 H locs hB fσ_4 pσ_4 hS => ?_)
  have hI_7 : LI σ_4 qx bw w0 w1 w2 w3 qm bg bk bc bx bi bf := LI.fr hLG hI fσ_4 (by decide)
  refine lv_pop hx hb dL_law_1025 rfl ?_
  refine lv_aload_n hx hb dL_law_1026 rfl (lv_at hl 1 rfl) ?_
  refine lv_aload_n hx hb dL_law_1027 rfl (lv_at hl 3 rfl) ?_
  refine lv_iload_n hx hb dL_law_1028 rfl (lv_at hl 0 rfl) ?_
  refine lv_iconst (v := 1) hx hb dL_law_1029 (by decide) ?_
  refine lv_iadd hx hb dL_law_1030 ?_
  refine lv_topi (fun x_8 ex_8 => ?_)
  have vx_8 := b_add (rfl : i.toInt = _) (by decide : (1 : Int32).toInt = 1) ex_8 (by omega) (by omega)
  refine va_sld hx hb hX hbl hbA hS (i_in (by omega) (by omega)) dL_law_1031 ?_
  refine tp_i (w := xs (i.toInt.toNat + 1)) (by rw [show x_8.toNatClampNeg = i.toInt.toNat + 1 from (by have hn : x_8.toNatClampNeg = x_8.toInt.toNat := rfl; omega)]) ?_
  refine lv_aload_n hx hb dL_law_1032 rfl (lv_at hl 3 rfl) ?_
  refine lv_iload_n hx hb dL_law_1033 rfl (lv_at hl 0 rfl) ?_
  refine lv_iconst (v := 2) hx hb dL_law_1034 (by decide) ?_
  refine lv_iadd hx hb dL_law_1035 ?_
  refine lv_topi (fun x_9 ex_9 => ?_)
  have vx_9 := b_add (rfl : i.toInt = _) (by decide : (2 : Int32).toInt = 2) ex_9 (by omega) (by omega)
  refine va_sld hx hb hX hbl hbA hS (i_in (by omega) (by omega)) dL_law_1036 ?_
  refine tp_i (w := xs (i.toInt.toNat + 2)) (by rw [show x_9.toNatClampNeg = i.toInt.toNat + 2 from (by have hn : x_9.toNatClampNeg = x_9.toInt.toNat := rfl; omega)]) ?_
  refine lv_aload_n hx hb dL_law_1037 rfl (lv_at hl 3 rfl) ?_
  refine lv_iload_n hx hb dL_law_1038 rfl (lv_at hl 0 rfl) ?_
  refine lv_iconst (v := 3) hx hb dL_law_1039 (by decide) ?_
  refine lv_iadd hx hb dL_law_1040 ?_
  refine lv_topi (fun x_10 ex_10 => ?_)
  have vx_10 := b_add (rfl : i.toInt = _) (by decide : (3 : Int32).toInt = 3) ex_10 (by omega) (by omega)
  refine va_sld hx hb hX hbl hbA hS (i_in (by omega) (by omega)) dL_law_1041 ?_
  refine tp_i (w := xs (i.toInt.toNat + 3)) (by rw [show x_10.toNatClampNeg = i.toInt.toNat + 3 from (by have hn : x_10.toNatClampNeg = x_10.toInt.toNat := rfl; omega)]) ?_
  refine t_ci (va_runV (As := [.int (xs (i.toInt.toNat + 1)), .int (xs (i.toInt.toNat + 2)), .int (xs (i.toInt.toNat + 3))]) (rest := []) ⟨hx, hb, hml, hown, hts⟩ (cy_X12_note l D cA L T r hG hLA.1 σ_4 ρ_5 hB.2.1 _ qm mqm tqm (xs (i.toInt.toNat + 1)) (xs (i.toInt.toNat + 2)) (xs (i.toInt.toNat + 3))) (cV hts mv_X12_note mw_8_73 rfl rfl ⟨Nat.le_of_ble_eq_true rfl, Nat.le_of_ble_eq_true rfl⟩) (pV hB.1 hK hN mqm tqm (show shp cA 12 _ _ _ = .inr (12, Fs12 _ _ _) from rfl) rfl) rfl rfl hl.1 rfl (lv_room (Nat.le_of_ble_eq_true rfl)) dL_law_1042 ⟨Nat.le_of_ble_eq_true rfl, Nat.le_of_ble_eq_true rfl⟩) hLA hA hB hS (by decide) (fun x_13 σ_11 ρ_12 H locs hB fσ_11 pσ_11 hS => ?_)
  have hI_14 : LI σ_11 qx bw w0 w1 w2 w3 qm bg bk bc bx bi bf := LI.fr hLG hI_7 fσ_11 (by decide)
  refine lv_pop hx hb dL_law_1045 rfl ?_
  refine lv_goto (tgt := 1240) hx hb dL_law_1046 (by decide) ?_
  exact kk _ _ _ _ hB hI_14 hS
theorem mw_5_128 : (.instanceMethod yX11_ruled : Cond) ∈ wsA := wsA_t (List.mem_append_right _ (List.mem_append_right _ (List.mem_append_right _ (List.mem_append_right _ (List.mem_append_left _ (List.mem_of_getElem? (l := tables_1_5) (i := 128) rfl)))))) rfl
theorem mw_5_129 : (.selects RX11 yX11_ruled yX11_ruled : Cond) ∈ wsA := wsA_t (List.mem_append_right _ (List.mem_append_right _ (List.mem_append_right _ (List.mem_append_right _ (List.mem_append_left _ (List.mem_of_getElem? (l := tables_1_5) (i := 129) rfl)))))) rfl
theorem mw_5_130 : (.code yX11_ruled cX11_ruled 4 (some .int) : Cond) ∈ wsA := wsA_t (List.mem_append_right _ (List.mem_append_right _ (List.mem_append_right _ (List.mem_append_right _ (List.mem_append_left _ (List.mem_of_getElem? (l := tables_1_5) (i := 130) rfl)))))) rfl
theorem mw_5_127 : (.methodLink RL 134 yX11_ruled : Cond) ∈ wsA := wsA_t (List.mem_append_right _ (List.mem_append_right _ (List.mem_append_right _ (List.mem_append_right _ (List.mem_append_left _ (List.mem_of_getElem? (l := tables_1_5) (i := 127) rfl)))))) rfl
theorem mw_8_79 : (.instanceMethod yX12_ruled : Cond) ∈ wsA := wsA_t (List.mem_append_right _ (List.mem_append_right _ (List.mem_append_right _ (List.mem_append_right _ (List.mem_append_right _ (List.mem_append_right _ (List.mem_append_right _ (List.mem_of_getElem? (l := tables_1_8) (i := 79) rfl)))))))) rfl
theorem mw_8_80 : (.selects RX12 yX12_ruled yX12_ruled : Cond) ∈ wsA := wsA_t (List.mem_append_right _ (List.mem_append_right _ (List.mem_append_right _ (List.mem_append_right _ (List.mem_append_right _ (List.mem_append_right _ (List.mem_append_right _ (List.mem_of_getElem? (l := tables_1_8) (i := 80) rfl)))))))) rfl
theorem mw_8_81 : (.code yX12_ruled cX12_ruled 5 (some .int) : Cond) ∈ wsA := wsA_t (List.mem_append_right _ (List.mem_append_right _ (List.mem_append_right _ (List.mem_append_right _ (List.mem_append_right _ (List.mem_append_right _ (List.mem_append_right _ (List.mem_of_getElem? (l := tables_1_8) (i := 81) rfl)))))))) rfl
theorem mw_8_78 : (.methodLink RL 137 yX12_ruled : Cond) ∈ wsA := wsA_t (List.mem_append_right _ (List.mem_append_right _ (List.mem_append_right _ (List.mem_append_right _ (List.mem_append_right _ (List.mem_append_right _ (List.mem_append_right _ (List.mem_of_getElem? (l := tables_1_8) (i := 78) rfl)))))))) rfl
theorem dL_law_1049 : decode cL_law 1049 = .ok (.aload_n 1, 1) := by decide +kernel
theorem dL_law_1050 : decode cL_law 1050 = .ok (.aload_n 0, 1) := by decide +kernel
theorem dL_law_1051 : decode cL_law 1051 = .ok (.iload_n 3, 1) := by decide +kernel
theorem dL_law_1052 : decode cL_law 1052 = .ok (.iconst 1, 1) := by decide +kernel
theorem dL_law_1053 : decode cL_law 1053 = .ok (.iadd, 1) := by decide +kernel
theorem dL_law_1054 : decode cL_law 1054 = .ok (.iaload, 1) := by decide +kernel
theorem dL_law_1055 : decode cL_law 1055 = .ok (.invokevirtual 134, 3) := by decide +kernel
theorem dL_law_1058 : decode cL_law 1058 = .ok (.pop, 1) := by decide +kernel
theorem dL_law_1059 : decode cL_law 1059 = .ok (.aload_n 2, 1) := by decide +kernel
theorem dL_law_1060 : decode cL_law 1060 = .ok (.aload_n 0, 1) := by decide +kernel
theorem dL_law_1061 : decode cL_law 1061 = .ok (.iload_n 3, 1) := by decide +kernel
theorem dL_law_1062 : decode cL_law 1062 = .ok (.iconst 1, 1) := by decide +kernel
theorem dL_law_1063 : decode cL_law 1063 = .ok (.iadd, 1) := by decide +kernel
theorem dL_law_1064 : decode cL_law 1064 = .ok (.iaload, 1) := by decide +kernel
theorem dL_law_1065 : decode cL_law 1065 = .ok (.invokevirtual 137, 3) := by decide +kernel
theorem dL_law_1068 : decode cL_law 1068 = .ok (.pop, 1) := by decide +kernel
theorem dL_law_1069 : decode cL_law 1069 = .ok (.goto 171, 3) := by decide +kernel
theorem mv_X11_ruled : MV RX11 yX11_ruled cX11_ruled 4 (some .int) 1 := ⟨mw_5_128, mw_5_129, mw_1_1, mw_5_130, ⟨rfl, by decide, by decide, by decide +kernel⟩⟩
theorem mv_X12_ruled : MV RX12 yX12_ruled cX12_ruled 5 (some .int) 1 := ⟨mw_8_79, mw_8_80, mw_1_13, mw_8_81, ⟨rfl, by decide, by decide, by decide +kernel⟩⟩
set_option maxHeartbeats 4000000 in
set_option maxRecDepth 100000 in
theorem law_c29 {p : Program} {e : Env} {s : State} {m : MethodId} {below : List Frame} {meth : Method} {c : Code} (l : Launch) {b Ls : Nat} {xs : Nat → Int32} (hLs : Ls ≤ 3072) (hx : p.tables.exec = Jvm.exec) (hb : c.code = code) (hr : meth.sig.returnType = ret) (hml : c.maxLocals = 4) (hown : s.vm.findClass RL = some m.cls) (hts : ∀ w ∈ wsA, w.before #[Value.ref b] s = true) (hX : va_X b Ls xs s s.heap) (hbl : b < s.heap.size) (hlocks : meth.locks = false) (D : va_G) (cA : Nat → ClassId) (hK : va_K D vwCl (tyA cA) s) (hN : NW s) (adK adV : Nat → Nat) (L : List Nat) (T : Nat → Nat) (r : Rg) (hLA : LA (fun q : Nat => s.heap.size ≤ q) L) (hG : GR L T r) (hV : SWL adK adV L s) (qx : Nat) (mqx : qx ∈ L) (tqx : T qx = 11) (bw : Nat) (mbw : bw ∈ L) (tbw : T bw = 10) (w0 : Nat) (mw0 : w0 ∈ L) (tw0 : T w0 = 13) (w1 : Nat) (mw1 : w1 ∈ L) (tw1 : T w1 = 14) (w2 : Nat) (mw2 : w2 ∈ L) (tw2 : T w2 = 15) (w3 : Nat) (mw3 : w3 ∈ L) (tw3 : T w3 = 16) (qm : Nat) (mqm : qm ∈ L) (tqm : T qm = 12) (bg : Nat) (mbg : bg ∈ L) (tbg : T bg = 62) (bk : Nat) (mbk : bk ∈ L) (tbk : T bk = 64) (bc : Nat) (mbc : bc ∈ L) (tbc : T bc = 65) (bx : Nat) (mbx : bx ∈ L) (tbx : T bx = 84) (bi : Nat) (mbi : bi ∈ L) (tbi : T bi = 85) (bf : Nat) (mbf : bf ∈ L) (tbf : T bf = 83) (ba : Nat) (mba : ba ∈ L) (tba : T ba = 60) (hbw : r qx 3 = some bw) (hba : r qx 4 = some ba) (hbg : r qm 3 = some bg) (hbk : r qm 5 = some bk) (hbc : r qm 6 = some bc) (hbx : r qm 42 = some bx) (hbi : r qm 43 = some bi) (hbf : r qm 41 = some bf) (hw0 : r ba 0 = some w0) (hw1 : r ba 1 = some w1) (hw2 : r ba 2 = some w2) (hw3 : r ba 3 = some w3) (hLG : LG T qx bw w0 w1 w2 w3 qm bg bk bc bx bi bf) (i : Int32) (li : 0 ≤ i.toInt) (ui : i.toInt ≤ 3066) (vi : i.toInt + 6 ≤ Ls) (σ0 σ : Sg) (ρ : Lg) (H : Heap) (hB : TS D cA L T r ry msL σ0 σ ρ H) (hI : LI σ qx bw w0 w1 w2 w3 qm bg bk bc bx bi bf) (locs : List Loc) (hS : va_S (fun q : Nat => s.heap.size ≤ q) s.heap H locs) (ls : Array Slot) (hl : lv_has ls 4 [(3, .int i), (2, .ref qm), (1, .ref qx), (0, .ref b)]) (kk : ∀ (σ2 : Sg) (ρ2 : Lg) (H : Heap) (locs : List Loc), TS D cA L T r ry msL σ0 σ2 ρ2 H → LI σ2 qx bw w0 w1 w2 w3 qm bg bk bc bx bi bf → va_S (fun q : Nat => s.heap.size ≤ q) s.heap H locs → W p l e room_1 s m #[Value.ref b] below meth c H locs 378 16064 (lw_Z below #[Value.ref b] s) (F0 m 1240 ls [])) : W p l e room_1 s m #[Value.ref b] below meth c H locs 378 16064 (lw_Z below #[Value.ref b] s) (F0 m 1049 ls []) := by
  have hA : ∀ q : Nat, s.heap.size ≤ q → (fun q : Nat => s.heap.size ≤ q) q := fun _ h => h
  have hbA : ¬ (fun q : Nat => s.heap.size ≤ q) b := Nat.not_le.mpr hbl
  refine lv_aload_n hx hb dL_law_1049 rfl (lv_at hl 2 rfl) ?_
  refine lv_aload_n hx hb dL_law_1050 rfl (lv_at hl 3 rfl) ?_
  refine lv_iload_n hx hb dL_law_1051 rfl (lv_at hl 0 rfl) ?_
  refine lv_iconst (v := 1) hx hb dL_law_1052 (by decide) ?_
  refine lv_iadd hx hb dL_law_1053 ?_
  refine lv_topi (fun x_1 ex_1 => ?_)
  have vx_1 := b_add (rfl : i.toInt = _) (by decide : (1 : Int32).toInt = 1) ex_1 (by omega) (by omega)
  refine va_sld hx hb hX hbl hbA hS (i_in (by omega) (by omega)) dL_law_1054 ?_
  refine tp_i (w := xs (i.toInt.toNat + 1)) (by rw [show x_1.toNatClampNeg = i.toInt.toNat + 1 from (by have hn : x_1.toNatClampNeg = x_1.toInt.toNat := rfl; omega)]) ?_
  refine t_ci (va_runV (As := [.int (xs (i.toInt.toNat + 1))]) (rest := []) ⟨hx, hb, hml, hown, hts⟩ (cy_X11_ruled l D cA L T r hG hLA.1 σ ρ hB.2.1 _ qx mqx tqx (xs (i.toInt.toNat + 1))) (cV hts mv_X11_ruled mw_5_127 rfl rfl ⟨Nat.le_of_ble_eq_true rfl, Nat.le_of_ble_eq_true rfl⟩) (pV hB.1 hK hN mqx tqx (show shp cA 11 _ _ _ = .inr (11, Fs11 _ _ _) from rfl) rfl) rfl rfl hl.1 rfl (lv_room (Nat.le_of_ble_eq_true rfl)) dL_law_1055 ⟨Nat.le_of_ble_eq_true rfl, Nat.le_of_ble_eq_true rfl⟩) hLA hA hB hS (by decide) (fun x_4 σ_2 ρ_3 H locs hB fσ_2 pσ_2 hS => ?_)
  have hI_5 : LI σ_2 qx bw w0 w1 w2 w3 qm bg bk bc bx bi bf := LI.fr hLG hI fσ_2 (by decide)
  refine lv_pop hx hb dL_law_1058 rfl ?_
  refine lv_aload_n hx hb dL_law_1059 rfl (lv_at hl 1 rfl) ?_
  refine lv_aload_n hx hb dL_law_1060 rfl (lv_at hl 3 rfl) ?_
  refine lv_iload_n hx hb dL_law_1061 rfl (lv_at hl 0 rfl) ?_
  refine lv_iconst (v := 1) hx hb dL_law_1062 (by decide) ?_
  refine lv_iadd hx hb dL_law_1063 ?_
  refine lv_topi (fun x_6 ex_6 => ?_)
  have vx_6 := b_add (rfl : i.toInt = _) (by decide : (1 : Int32).toInt = 1) ex_6 (by omega) (by omega)
  refine va_sld hx hb hX hbl hbA hS (i_in (by omega) (by omega)) dL_law_1064 ?_
  refine tp_i (w := xs (i.toInt.toNat + 1)) (by rw [show x_6.toNatClampNeg = i.toInt.toNat + 1 from (by have hn : x_6.toNatClampNeg = x_6.toInt.toNat := rfl; omega)]) ?_
  refine t_ci (va_runV (As := [.int (xs (i.toInt.toNat + 1))]) (rest := []) ⟨hx, hb, hml, hown, hts⟩ (cy_X12_ruled l D cA L T r hG hLA.1 σ_2 ρ_3 hB.2.1 _ qm mqm tqm (xs (i.toInt.toNat + 1)) bg hbg mbg tbg bk hbk mbk tbk bc hbc mbc tbc hI_5.1) (cV hts mv_X12_ruled mw_8_78 rfl rfl ⟨Nat.le_of_ble_eq_true rfl, Nat.le_of_ble_eq_true rfl⟩) (pV hB.1 hK hN mqm tqm (show shp cA 12 _ _ _ = .inr (12, Fs12 _ _ _) from rfl) rfl) rfl rfl hl.1 rfl (lv_room (Nat.le_of_ble_eq_true rfl)) dL_law_1065 ⟨Nat.le_of_ble_eq_true rfl, Nat.le_of_ble_eq_true rfl⟩) hLA hA hB hS (by decide) (fun x_9 σ_7 ρ_8 H locs hB fσ_7 pσ_7 hS => ?_)
  have hI_10 : LI σ_7 qx bw w0 w1 w2 w3 qm bg bk bc bx bi bf := LI.eq hI_5 (FR.row fσ_7 tbg (fun j => by simp)) (FR.row fσ_7 tbk (fun j => by simp)) (FR.row fσ_7 tbc (fun j => by simp)) (FR.at fσ_7 tqm (by decide)) pσ_7 (FR.row fσ_7 tbf (fun j => by simp)) (FR.at fσ_7 tbw (by decide)) (FR.at fσ_7 tqm (by decide)) (FR.at fσ_7 tw0 (by decide)) (FR.at fσ_7 tw1 (by decide)) (FR.at fσ_7 tw2 (by decide)) (FR.at fσ_7 tw3 (by decide)) (FR.row fσ_7 tbx (fun j => by simp)) (FR.row fσ_7 tbi (fun j => by simp)) (FR.at fσ_7 tqx (by decide))
  refine lv_pop hx hb dL_law_1068 rfl ?_
  refine lv_goto (tgt := 1240) hx hb dL_law_1069 (by decide) ?_
  exact kk _ _ _ _ hB hI_10 hS
theorem mw_5_153 : (.instanceMethod yX11_look : Cond) ∈ wsA := wsA_t (List.mem_append_right _ (List.mem_append_right _ (List.mem_append_right _ (List.mem_append_right _ (List.mem_append_left _ (List.mem_of_getElem? (l := tables_1_5) (i := 153) rfl)))))) rfl
theorem mw_5_154 : (.selects RX11 yX11_look yX11_look : Cond) ∈ wsA := wsA_t (List.mem_append_right _ (List.mem_append_right _ (List.mem_append_right _ (List.mem_append_right _ (List.mem_append_left _ (List.mem_of_getElem? (l := tables_1_5) (i := 154) rfl)))))) rfl
theorem mw_5_155 : (.code yX11_look cX11_look 8 (some .int) : Cond) ∈ wsA := wsA_t (List.mem_append_right _ (List.mem_append_right _ (List.mem_append_right _ (List.mem_append_right _ (List.mem_append_left _ (List.mem_of_getElem? (l := tables_1_5) (i := 155) rfl)))))) rfl
theorem mw_5_152 : (.methodLink RL 138 yX11_look : Cond) ∈ wsA := wsA_t (List.mem_append_right _ (List.mem_append_right _ (List.mem_append_right _ (List.mem_append_right _ (List.mem_append_left _ (List.mem_of_getElem? (l := tables_1_5) (i := 152) rfl)))))) rfl
theorem mw_8_103 : (.instanceMethod yX12_look : Cond) ∈ wsA := wsA_t (List.mem_append_right _ (List.mem_append_right _ (List.mem_append_right _ (List.mem_append_right _ (List.mem_append_right _ (List.mem_append_right _ (List.mem_append_right _ (List.mem_of_getElem? (l := tables_1_8) (i := 103) rfl)))))))) rfl
theorem mw_8_104 : (.selects RX12 yX12_look yX12_look : Cond) ∈ wsA := wsA_t (List.mem_append_right _ (List.mem_append_right _ (List.mem_append_right _ (List.mem_append_right _ (List.mem_append_right _ (List.mem_append_right _ (List.mem_append_right _ (List.mem_of_getElem? (l := tables_1_8) (i := 104) rfl)))))))) rfl
theorem mw_8_105 : (.code yX12_look cX12_look 7 (some .int) : Cond) ∈ wsA := wsA_t (List.mem_append_right _ (List.mem_append_right _ (List.mem_append_right _ (List.mem_append_right _ (List.mem_append_right _ (List.mem_append_right _ (List.mem_append_right _ (List.mem_of_getElem? (l := tables_1_8) (i := 105) rfl)))))))) rfl
theorem mw_8_102 : (.methodLink RL 141 yX12_look : Cond) ∈ wsA := wsA_t (List.mem_append_right _ (List.mem_append_right _ (List.mem_append_right _ (List.mem_append_right _ (List.mem_append_right _ (List.mem_append_right _ (List.mem_append_right _ (List.mem_of_getElem? (l := tables_1_8) (i := 102) rfl)))))))) rfl
theorem dL_law_1072 : decode cL_law 1072 = .ok (.aload_n 1, 1) := by decide +kernel
theorem dL_law_1073 : decode cL_law 1073 = .ok (.aload_n 0, 1) := by decide +kernel
theorem dL_law_1074 : decode cL_law 1074 = .ok (.iload_n 3, 1) := by decide +kernel
theorem dL_law_1075 : decode cL_law 1075 = .ok (.iconst 1, 1) := by decide +kernel
theorem dL_law_1076 : decode cL_law 1076 = .ok (.iadd, 1) := by decide +kernel
theorem dL_law_1077 : decode cL_law 1077 = .ok (.iaload, 1) := by decide +kernel
theorem dL_law_1078 : decode cL_law 1078 = .ok (.aload_n 0, 1) := by decide +kernel
theorem dL_law_1079 : decode cL_law 1079 = .ok (.iload_n 3, 1) := by decide +kernel
theorem dL_law_1080 : decode cL_law 1080 = .ok (.iconst 2, 1) := by decide +kernel
theorem dL_law_1081 : decode cL_law 1081 = .ok (.iadd, 1) := by decide +kernel
theorem dL_law_1082 : decode cL_law 1082 = .ok (.iaload, 1) := by decide +kernel
theorem dL_law_1083 : decode cL_law 1083 = .ok (.invokevirtual 138, 3) := by decide +kernel
theorem dL_law_1086 : decode cL_law 1086 = .ok (.pop, 1) := by decide +kernel
theorem dL_law_1087 : decode cL_law 1087 = .ok (.aload_n 2, 1) := by decide +kernel
theorem dL_law_1088 : decode cL_law 1088 = .ok (.aload_n 0, 1) := by decide +kernel
theorem dL_law_1089 : decode cL_law 1089 = .ok (.iload_n 3, 1) := by decide +kernel
theorem dL_law_1090 : decode cL_law 1090 = .ok (.iconst 1, 1) := by decide +kernel
theorem dL_law_1091 : decode cL_law 1091 = .ok (.iadd, 1) := by decide +kernel
theorem dL_law_1092 : decode cL_law 1092 = .ok (.iaload, 1) := by decide +kernel
theorem dL_law_1093 : decode cL_law 1093 = .ok (.aload_n 0, 1) := by decide +kernel
theorem dL_law_1094 : decode cL_law 1094 = .ok (.iload_n 3, 1) := by decide +kernel
theorem dL_law_1095 : decode cL_law 1095 = .ok (.iconst 2, 1) := by decide +kernel
theorem dL_law_1096 : decode cL_law 1096 = .ok (.iadd, 1) := by decide +kernel
theorem dL_law_1097 : decode cL_law 1097 = .ok (.iaload, 1) := by decide +kernel
theorem dL_law_1098 : decode cL_law 1098 = .ok (.invokevirtual 141, 3) := by decide +kernel
theorem dL_law_1101 : decode cL_law 1101 = .ok (.pop, 1) := by decide +kernel
theorem dL_law_1102 : decode cL_law 1102 = .ok (.goto 138, 3) := by decide +kernel
theorem mv_X11_look : MV RX11 yX11_look cX11_look 8 (some .int) 2 := ⟨mw_5_153, mw_5_154, mw_1_1, mw_5_155, ⟨rfl, by decide, by decide, by decide +kernel⟩⟩
theorem mv_X12_look : MV RX12 yX12_look cX12_look 7 (some .int) 2 := ⟨mw_8_103, mw_8_104, mw_1_13, mw_8_105, ⟨rfl, by decide, by decide, by decide +kernel⟩⟩
set_option maxHeartbeats 4000000 in
set_option maxRecDepth 100000 in
theorem law_c30 {p : Program} {e : Env} {s : State} {m : MethodId} {below : List Frame} {meth : Method} {c : Code} (l : Launch) {b Ls : Nat} {xs : Nat → Int32} (hLs : Ls ≤ 3072) (hx : p.tables.exec = Jvm.exec) (hb : c.code = code) (hr : meth.sig.returnType = ret) (hml : c.maxLocals = 4) (hown : s.vm.findClass RL = some m.cls) (hts : ∀ w ∈ wsA, w.before #[Value.ref b] s = true) (hX : va_X b Ls xs s s.heap) (hbl : b < s.heap.size) (hlocks : meth.locks = false) (D : va_G) (cA : Nat → ClassId) (hK : va_K D vwCl (tyA cA) s) (hN : NW s) (adK adV : Nat → Nat) (L : List Nat) (T : Nat → Nat) (r : Rg) (hLA : LA (fun q : Nat => s.heap.size ≤ q) L) (hG : GR L T r) (hV : SWL adK adV L s) (qx : Nat) (mqx : qx ∈ L) (tqx : T qx = 11) (bw : Nat) (mbw : bw ∈ L) (tbw : T bw = 10) (w0 : Nat) (mw0 : w0 ∈ L) (tw0 : T w0 = 13) (w1 : Nat) (mw1 : w1 ∈ L) (tw1 : T w1 = 14) (w2 : Nat) (mw2 : w2 ∈ L) (tw2 : T w2 = 15) (w3 : Nat) (mw3 : w3 ∈ L) (tw3 : T w3 = 16) (qm : Nat) (mqm : qm ∈ L) (tqm : T qm = 12) (bg : Nat) (mbg : bg ∈ L) (tbg : T bg = 62) (bk : Nat) (mbk : bk ∈ L) (tbk : T bk = 64) (bc : Nat) (mbc : bc ∈ L) (tbc : T bc = 65) (bx : Nat) (mbx : bx ∈ L) (tbx : T bx = 84) (bi : Nat) (mbi : bi ∈ L) (tbi : T bi = 85) (bf : Nat) (mbf : bf ∈ L) (tbf : T bf = 83) (ba : Nat) (mba : ba ∈ L) (tba : T ba = 60) (hbw : r qx 3 = some bw) (hba : r qx 4 = some ba) (hbg : r qm 3 = some bg) (hbk : r qm 5 = some bk) (hbc : r qm 6 = some bc) (hbx : r qm 42 = some bx) (hbi : r qm 43 = some bi) (hbf : r qm 41 = some bf) (hw0 : r ba 0 = some w0) (hw1 : r ba 1 = some w1) (hw2 : r ba 2 = some w2) (hw3 : r ba 3 = some w3) (hLG : LG T qx bw w0 w1 w2 w3 qm bg bk bc bx bi bf) (i : Int32) (li : 0 ≤ i.toInt) (ui : i.toInt ≤ 3066) (vi : i.toInt + 6 ≤ Ls) (σ0 σ : Sg) (ρ : Lg) (H : Heap) (hB : TS D cA L T r ry msL σ0 σ ρ H) (hI : LI σ qx bw w0 w1 w2 w3 qm bg bk bc bx bi bf) (locs : List Loc) (hS : va_S (fun q : Nat => s.heap.size ≤ q) s.heap H locs) (ls : Array Slot) (hl : lv_has ls 4 [(3, .int i), (2, .ref qm), (1, .ref qx), (0, .ref b)]) (kk : ∀ (σ2 : Sg) (ρ2 : Lg) (H : Heap) (locs : List Loc), TS D cA L T r ry msL σ0 σ2 ρ2 H → LI σ2 qx bw w0 w1 w2 w3 qm bg bk bc bx bi bf → va_S (fun q : Nat => s.heap.size ≤ q) s.heap H locs → W p l e room_1 s m #[Value.ref b] below meth c H locs 378 16064 (lw_Z below #[Value.ref b] s) (F0 m 1240 ls [])) : W p l e room_1 s m #[Value.ref b] below meth c H locs 378 16064 (lw_Z below #[Value.ref b] s) (F0 m 1072 ls []) := by
  have hA : ∀ q : Nat, s.heap.size ≤ q → (fun q : Nat => s.heap.size ≤ q) q := fun _ h => h
  have hbA : ¬ (fun q : Nat => s.heap.size ≤ q) b := Nat.not_le.mpr hbl
  refine lv_aload_n hx hb dL_law_1072 rfl (lv_at hl 2 rfl) ?_
  refine lv_aload_n hx hb dL_law_1073 rfl (lv_at hl 3 rfl) ?_
  refine lv_iload_n hx hb dL_law_1074 rfl (lv_at hl 0 rfl) ?_
  refine lv_iconst (v := 1) hx hb dL_law_1075 (by decide) ?_
  refine lv_iadd hx hb dL_law_1076 ?_
  refine lv_topi (fun x_1 ex_1 => ?_)
  have vx_1 := b_add (rfl : i.toInt = _) (by decide : (1 : Int32).toInt = 1) ex_1 (by omega) (by omega)
  refine va_sld hx hb hX hbl hbA hS (i_in (by omega) (by omega)) dL_law_1077 ?_
  refine tp_i (w := xs (i.toInt.toNat + 1)) (by rw [show x_1.toNatClampNeg = i.toInt.toNat + 1 from (by have hn : x_1.toNatClampNeg = x_1.toInt.toNat := rfl; omega)]) ?_
  refine lv_aload_n hx hb dL_law_1078 rfl (lv_at hl 3 rfl) ?_
  refine lv_iload_n hx hb dL_law_1079 rfl (lv_at hl 0 rfl) ?_
  refine lv_iconst (v := 2) hx hb dL_law_1080 (by decide) ?_
  refine lv_iadd hx hb dL_law_1081 ?_
  refine lv_topi (fun x_2 ex_2 => ?_)
  have vx_2 := b_add (rfl : i.toInt = _) (by decide : (2 : Int32).toInt = 2) ex_2 (by omega) (by omega)
  refine va_sld hx hb hX hbl hbA hS (i_in (by omega) (by omega)) dL_law_1082 ?_
  refine tp_i (w := xs (i.toInt.toNat + 2)) (by rw [show x_2.toNatClampNeg = i.toInt.toNat + 2 from (by have hn : x_2.toNatClampNeg = x_2.toInt.toNat := rfl; omega)]) ?_
  refine t_ci (va_runV (As := [.int (xs (i.toInt.toNat + 1)), .int (xs (i.toInt.toNat + 2))]) (rest := []) ⟨hx, hb, hml, hown, hts⟩ (cy_X11_look l D cA L T r hG hLA.1 σ ρ hB.2.1 _ qx mqx tqx (xs (i.toInt.toNat + 1)) (xs (i.toInt.toNat + 2))) (cV hts mv_X11_look mw_5_152 rfl rfl ⟨Nat.le_of_ble_eq_true rfl, Nat.le_of_ble_eq_true rfl⟩) (pV hB.1 hK hN mqx tqx (show shp cA 11 _ _ _ = .inr (11, Fs11 _ _ _) from rfl) rfl) rfl rfl hl.1 rfl (lv_room (Nat.le_of_ble_eq_true rfl)) dL_law_1083 ⟨Nat.le_of_ble_eq_true rfl, Nat.le_of_ble_eq_true rfl⟩) hLA hA hB hS (by decide) (fun x_5 σ_3 ρ_4 H locs hB fσ_3 pσ_3 hS => ?_)
  have hI_6 : LI σ_3 qx bw w0 w1 w2 w3 qm bg bk bc bx bi bf := LI.fr hLG hI fσ_3 (by decide)
  refine lv_pop hx hb dL_law_1086 rfl ?_
  refine lv_aload_n hx hb dL_law_1087 rfl (lv_at hl 1 rfl) ?_
  refine lv_aload_n hx hb dL_law_1088 rfl (lv_at hl 3 rfl) ?_
  refine lv_iload_n hx hb dL_law_1089 rfl (lv_at hl 0 rfl) ?_
  refine lv_iconst (v := 1) hx hb dL_law_1090 (by decide) ?_
  refine lv_iadd hx hb dL_law_1091 ?_
  refine lv_topi (fun x_7 ex_7 => ?_)
  have vx_7 := b_add (rfl : i.toInt = _) (by decide : (1 : Int32).toInt = 1) ex_7 (by omega) (by omega)
  refine va_sld hx hb hX hbl hbA hS (i_in (by omega) (by omega)) dL_law_1092 ?_
  refine tp_i (w := xs (i.toInt.toNat + 1)) (by rw [show x_7.toNatClampNeg = i.toInt.toNat + 1 from (by have hn : x_7.toNatClampNeg = x_7.toInt.toNat := rfl; omega)]) ?_
  refine lv_aload_n hx hb dL_law_1093 rfl (lv_at hl 3 rfl) ?_
  refine lv_iload_n hx hb dL_law_1094 rfl (lv_at hl 0 rfl) ?_
  refine lv_iconst (v := 2) hx hb dL_law_1095 (by decide) ?_
  refine lv_iadd hx hb dL_law_1096 ?_
  refine lv_topi (fun x_8 ex_8 => ?_)
  have vx_8 := b_add (rfl : i.toInt = _) (by decide : (2 : Int32).toInt = 2) ex_8 (by omega) (by omega)
  refine va_sld hx hb hX hbl hbA hS (i_in (by omega) (by omega)) dL_law_1097 ?_
  refine tp_i (w := xs (i.toInt.toNat + 2)) (by rw [show x_8.toNatClampNeg = i.toInt.toNat + 2 from (by have hn : x_8.toNatClampNeg = x_8.toInt.toNat := rfl; omega)]) ?_
  refine t_ci (va_runV (As := [.int (xs (i.toInt.toNat + 1)), .int (xs (i.toInt.toNat + 2))]) (rest := []) ⟨hx, hb, hml, hown, hts⟩ (cy_X12_look l D cA L T r hG hLA.1 σ_3 ρ_4 hB.2.1 _ qm mqm tqm (xs (i.toInt.toNat + 1)) (xs (i.toInt.toNat + 2)) bg hbg mbg tbg bk hbk mbk tbk bc hbc mbc tbc hI_6.1) (cV hts mv_X12_look mw_8_102 rfl rfl ⟨Nat.le_of_ble_eq_true rfl, Nat.le_of_ble_eq_true rfl⟩) (pV hB.1 hK hN mqm tqm (show shp cA 12 _ _ _ = .inr (12, Fs12 _ _ _) from rfl) rfl) rfl rfl hl.1 rfl (lv_room (Nat.le_of_ble_eq_true rfl)) dL_law_1098 ⟨Nat.le_of_ble_eq_true rfl, Nat.le_of_ble_eq_true rfl⟩) hLA hA hB hS (by decide) (fun x_11 σ_9 ρ_10 H locs hB fσ_9 pσ_9 hS => ?_)
  have hI_12 : LI σ_9 qx bw w0 w1 w2 w3 qm bg bk bc bx bi bf := LI.eq hI_6 (FR.row fσ_9 tbg (fun j => by simp)) (FR.row fσ_9 tbk (fun j => by simp)) (FR.row fσ_9 tbc (fun j => by simp)) (FR.at fσ_9 tqm (by decide)) pσ_9 (FR.row fσ_9 tbf (fun j => by simp)) (FR.at fσ_9 tbw (by decide)) (FR.at fσ_9 tqm (by decide)) (FR.at fσ_9 tw0 (by decide)) (FR.at fσ_9 tw1 (by decide)) (FR.at fσ_9 tw2 (by decide)) (FR.at fσ_9 tw3 (by decide)) (FR.row fσ_9 tbx (fun j => by simp)) (FR.row fσ_9 tbi (fun j => by simp)) (FR.at fσ_9 tqx (by decide))
  refine lv_pop hx hb dL_law_1101 rfl ?_
  refine lv_goto (tgt := 1240) hx hb dL_law_1102 (by decide) ?_
  exact kk _ _ _ _ hB hI_12 hS
theorem mw_5_162 : (.instanceMethod yX11_seed : Cond) ∈ wsA := wsA_t (List.mem_append_right _ (List.mem_append_right _ (List.mem_append_right _ (List.mem_append_right _ (List.mem_append_left _ (List.mem_of_getElem? (l := tables_1_5) (i := 162) rfl)))))) rfl
theorem mw_5_163 : (.selects RX11 yX11_seed yX11_seed : Cond) ∈ wsA := wsA_t (List.mem_append_right _ (List.mem_append_right _ (List.mem_append_right _ (List.mem_append_right _ (List.mem_append_left _ (List.mem_of_getElem? (l := tables_1_5) (i := 163) rfl)))))) rfl
theorem mw_5_164 : (.code yX11_seed cX11_seed 3 (some .int) : Cond) ∈ wsA := wsA_t (List.mem_append_right _ (List.mem_append_right _ (List.mem_append_right _ (List.mem_append_right _ (List.mem_append_left _ (List.mem_of_getElem? (l := tables_1_5) (i := 164) rfl)))))) rfl
theorem mw_5_161 : (.methodLink RL 142 yX11_seed : Cond) ∈ wsA := wsA_t (List.mem_append_right _ (List.mem_append_right _ (List.mem_append_right _ (List.mem_append_right _ (List.mem_append_left _ (List.mem_of_getElem? (l := tables_1_5) (i := 161) rfl)))))) rfl
theorem mw_8_111 : (.instanceMethod yX12_seed : Cond) ∈ wsA := wsA_t (List.mem_append_right _ (List.mem_append_right _ (List.mem_append_right _ (List.mem_append_right _ (List.mem_append_right _ (List.mem_append_right _ (List.mem_append_right _ (List.mem_of_getElem? (l := tables_1_8) (i := 111) rfl)))))))) rfl
theorem mw_8_112 : (.selects RX12 yX12_seed yX12_seed : Cond) ∈ wsA := wsA_t (List.mem_append_right _ (List.mem_append_right _ (List.mem_append_right _ (List.mem_append_right _ (List.mem_append_right _ (List.mem_append_right _ (List.mem_append_right _ (List.mem_of_getElem? (l := tables_1_8) (i := 112) rfl)))))))) rfl
theorem mw_8_113 : (.code yX12_seed cX12_seed 3 (some .int) : Cond) ∈ wsA := wsA_t (List.mem_append_right _ (List.mem_append_right _ (List.mem_append_right _ (List.mem_append_right _ (List.mem_append_right _ (List.mem_append_right _ (List.mem_append_right _ (List.mem_of_getElem? (l := tables_1_8) (i := 113) rfl)))))))) rfl
theorem mw_8_110 : (.methodLink RL 145 yX12_seed : Cond) ∈ wsA := wsA_t (List.mem_append_right _ (List.mem_append_right _ (List.mem_append_right _ (List.mem_append_right _ (List.mem_append_right _ (List.mem_append_right _ (List.mem_append_right _ (List.mem_of_getElem? (l := tables_1_8) (i := 110) rfl)))))))) rfl
theorem dL_law_1105 : decode cL_law 1105 = .ok (.aload_n 1, 1) := by decide +kernel
theorem dL_law_1106 : decode cL_law 1106 = .ok (.aload_n 0, 1) := by decide +kernel
theorem dL_law_1107 : decode cL_law 1107 = .ok (.iload_n 3, 1) := by decide +kernel
theorem dL_law_1108 : decode cL_law 1108 = .ok (.iconst 1, 1) := by decide +kernel
theorem dL_law_1109 : decode cL_law 1109 = .ok (.iadd, 1) := by decide +kernel
theorem dL_law_1110 : decode cL_law 1110 = .ok (.iaload, 1) := by decide +kernel
theorem dL_law_1111 : decode cL_law 1111 = .ok (.invokevirtual 142, 3) := by decide +kernel
theorem dL_law_1114 : decode cL_law 1114 = .ok (.aload_n 2, 1) := by decide +kernel
theorem dL_law_1115 : decode cL_law 1115 = .ok (.aload_n 0, 1) := by decide +kernel
theorem dL_law_1116 : decode cL_law 1116 = .ok (.iload_n 3, 1) := by decide +kernel
theorem dL_law_1117 : decode cL_law 1117 = .ok (.iconst 1, 1) := by decide +kernel
theorem dL_law_1118 : decode cL_law 1118 = .ok (.iadd, 1) := by decide +kernel
theorem dL_law_1119 : decode cL_law 1119 = .ok (.iaload, 1) := by decide +kernel
theorem dL_law_1120 : decode cL_law 1120 = .ok (.invokevirtual 145, 3) := by decide +kernel
theorem dL_law_1123 : decode cL_law 1123 = .ok (.if_icmp .eq 117, 3) := by decide +kernel
theorem mv_X11_seed : MV RX11 yX11_seed cX11_seed 3 (some .int) 1 := ⟨mw_5_162, mw_5_163, mw_1_1, mw_5_164, ⟨rfl, by decide, by decide, by decide +kernel⟩⟩
theorem mv_X12_seed : MV RX12 yX12_seed cX12_seed 3 (some .int) 1 := ⟨mw_8_111, mw_8_112, mw_1_13, mw_8_113, ⟨rfl, by decide, by decide, by decide +kernel⟩⟩
set_option maxHeartbeats 4000000 in
set_option maxRecDepth 100000 in
theorem law_c31 {p : Program} {e : Env} {s : State} {m : MethodId} {below : List Frame} {meth : Method} {c : Code} (l : Launch) {b Ls : Nat} {xs : Nat → Int32} (hLs : Ls ≤ 3072) (hx : p.tables.exec = Jvm.exec) (hb : c.code = code) (hr : meth.sig.returnType = ret) (hml : c.maxLocals = 4) (hown : s.vm.findClass RL = some m.cls) (hts : ∀ w ∈ wsA, w.before #[Value.ref b] s = true) (hX : va_X b Ls xs s s.heap) (hbl : b < s.heap.size) (hlocks : meth.locks = false) (D : va_G) (cA : Nat → ClassId) (hK : va_K D vwCl (tyA cA) s) (hN : NW s) (adK adV : Nat → Nat) (L : List Nat) (T : Nat → Nat) (r : Rg) (hLA : LA (fun q : Nat => s.heap.size ≤ q) L) (hG : GR L T r) (hV : SWL adK adV L s) (qx : Nat) (mqx : qx ∈ L) (tqx : T qx = 11) (bw : Nat) (mbw : bw ∈ L) (tbw : T bw = 10) (w0 : Nat) (mw0 : w0 ∈ L) (tw0 : T w0 = 13) (w1 : Nat) (mw1 : w1 ∈ L) (tw1 : T w1 = 14) (w2 : Nat) (mw2 : w2 ∈ L) (tw2 : T w2 = 15) (w3 : Nat) (mw3 : w3 ∈ L) (tw3 : T w3 = 16) (qm : Nat) (mqm : qm ∈ L) (tqm : T qm = 12) (bg : Nat) (mbg : bg ∈ L) (tbg : T bg = 62) (bk : Nat) (mbk : bk ∈ L) (tbk : T bk = 64) (bc : Nat) (mbc : bc ∈ L) (tbc : T bc = 65) (bx : Nat) (mbx : bx ∈ L) (tbx : T bx = 84) (bi : Nat) (mbi : bi ∈ L) (tbi : T bi = 85) (bf : Nat) (mbf : bf ∈ L) (tbf : T bf = 83) (ba : Nat) (mba : ba ∈ L) (tba : T ba = 60) (hbw : r qx 3 = some bw) (hba : r qx 4 = some ba) (hbg : r qm 3 = some bg) (hbk : r qm 5 = some bk) (hbc : r qm 6 = some bc) (hbx : r qm 42 = some bx) (hbi : r qm 43 = some bi) (hbf : r qm 41 = some bf) (hw0 : r ba 0 = some w0) (hw1 : r ba 1 = some w1) (hw2 : r ba 2 = some w2) (hw3 : r ba 3 = some w3) (hLG : LG T qx bw w0 w1 w2 w3 qm bg bk bc bx bi bf) (i : Int32) (li : 0 ≤ i.toInt) (ui : i.toInt ≤ 3066) (vi : i.toInt + 6 ≤ Ls) (σ0 σ : Sg) (ρ : Lg) (H : Heap) (hB : TS D cA L T r ry msL σ0 σ ρ H) (hI : LI σ qx bw w0 w1 w2 w3 qm bg bk bc bx bi bf) (locs : List Loc) (hS : va_S (fun q : Nat => s.heap.size ≤ q) s.heap H locs) (ls : Array Slot) (hl : lv_has ls 4 [(3, .int i), (2, .ref qm), (1, .ref qx), (0, .ref b)]) (kk : ∀ (σ2 : Sg) (ρ2 : Lg) (H : Heap) (locs : List Loc), TS D cA L T r ry msL σ0 σ2 ρ2 H → LI σ2 qx bw w0 w1 w2 w3 qm bg bk bc bx bi bf → va_S (fun q : Nat => s.heap.size ≤ q) s.heap H locs → W p l e room_1 s m #[Value.ref b] below meth c H locs 378 16064 (lw_Z below #[Value.ref b] s) (F0 m 1240 ls [])) : W p l e room_1 s m #[Value.ref b] below meth c H locs 378 16064 (lw_Z below #[Value.ref b] s) (F0 m 1105 ls []) := by
  have hA : ∀ q : Nat, s.heap.size ≤ q → (fun q : Nat => s.heap.size ≤ q) q := fun _ h => h
  have hbA : ¬ (fun q : Nat => s.heap.size ≤ q) b := Nat.not_le.mpr hbl
  refine lv_aload_n hx hb dL_law_1105 rfl (lv_at hl 2 rfl) ?_
  refine lv_aload_n hx hb dL_law_1106 rfl (lv_at hl 3 rfl) ?_
  refine lv_iload_n hx hb dL_law_1107 rfl (lv_at hl 0 rfl) ?_
  refine lv_iconst (v := 1) hx hb dL_law_1108 (by decide) ?_
  refine lv_iadd hx hb dL_law_1109 ?_
  refine lv_topi (fun x_1 ex_1 => ?_)
  have vx_1 := b_add (rfl : i.toInt = _) (by decide : (1 : Int32).toInt = 1) ex_1 (by omega) (by omega)
  refine va_sld hx hb hX hbl hbA hS (i_in (by omega) (by omega)) dL_law_1110 ?_
  refine tp_i (w := xs (i.toInt.toNat + 1)) (by rw [show x_1.toNatClampNeg = i.toInt.toNat + 1 from (by have hn : x_1.toNatClampNeg = x_1.toInt.toNat := rfl; omega)]) ?_
  refine t_ci (va_runV (As := [.int (xs (i.toInt.toNat + 1))]) (rest := []) ⟨hx, hb, hml, hown, hts⟩ (cz_X11_seed l D cA L T r hG hLA.1 σ ρ hB.2.1 _ qx mqx tqx (xs (i.toInt.toNat + 1)) bw hbw mbw tbw) (cV hts mv_X11_seed mw_5_161 rfl rfl ⟨Nat.le_of_ble_eq_true rfl, Nat.le_of_ble_eq_true rfl⟩) (pV hB.1 hK hN mqx tqx (show shp cA 11 _ _ _ = .inr (11, Fs11 _ _ _) from rfl) rfl) rfl rfl hl.1 rfl (lv_room (Nat.le_of_ble_eq_true rfl)) dL_law_1111 ⟨Nat.le_of_ble_eq_true rfl, Nat.le_of_ble_eq_true rfl⟩) hLA hA hB hS (by decide) (fun x_4 σ_2 ρ_3 H locs hB fσ_2 pσ_2 hS => ?_)
  refine lv_aload_n hx hb dL_law_1114 rfl (lv_at hl 1 rfl) ?_
  refine lv_aload_n hx hb dL_law_1115 rfl (lv_at hl 3 rfl) ?_
  refine lv_iload_n hx hb dL_law_1116 rfl (lv_at hl 0 rfl) ?_
  refine lv_iconst (v := 1) hx hb dL_law_1117 (by decide) ?_
  refine lv_iadd hx hb dL_law_1118 ?_
  refine lv_topi (fun x_6 ex_6 => ?_)
  have vx_6 := b_add (rfl : i.toInt = _) (by decide : (1 : Int32).toInt = 1) ex_6 (by omega) (by omega)
  refine va_sld hx hb hX hbl hbA hS (i_in (by omega) (by omega)) dL_law_1119 ?_
  refine tp_i (w := xs (i.toInt.toNat + 1)) (by rw [show x_6.toNatClampNeg = i.toInt.toNat + 1 from (by have hn : x_6.toNatClampNeg = x_6.toInt.toNat := rfl; omega)]) ?_
  refine t_ci (va_runV (As := [.int (xs (i.toInt.toNat + 1))]) (rest := [.int x_4]) ⟨hx, hb, hml, hown, hts⟩ (cz_X12_seed l D cA L T r hG hLA.1 σ_2 ρ_3 hB.2.1 _ qm mqm tqm (xs (i.toInt.toNat + 1))) (cV hts mv_X12_seed mw_8_110 rfl rfl ⟨Nat.le_of_ble_eq_true rfl, Nat.le_of_ble_eq_true rfl⟩) (pV hB.1 hK hN mqm tqm (show shp cA 12 _ _ _ = .inr (12, Fs12 _ _ _) from rfl) rfl) rfl rfl hl.1 rfl (lv_room (Nat.le_of_ble_eq_true rfl)) dL_law_1120 ⟨Nat.le_of_ble_eq_true rfl, Nat.le_of_ble_eq_true rfl⟩) hLA hA hB hS (by decide) (fun x_9 σ_7 ρ_8 H locs hB fσ_7 pσ_7 hS => ?_)
  have hSd : x_4 = x_9 ∧ LI σ_7 qx bw w0 w1 w2 w3 qm bg bk bc bx bi bf := LI.seed hI pσ_2 pσ_7 (FR.at fσ_2 tqm (by decide)) (FR.at fσ_7 tbw (by decide)) ((FR.row fσ_7 tbg (fun j => by simp)).trans (FR.row fσ_2 tbg (fun j => by simp))) ((FR.row fσ_7 tbk (fun j => by simp)).trans (FR.row fσ_2 tbk (fun j => by simp))) ((FR.row fσ_7 tbc (fun j => by simp)).trans (FR.row fσ_2 tbc (fun j => by simp))) ((FR.at fσ_7 tqm (by decide)).trans (FR.at fσ_2 tqm (by decide))) ((FR.at fσ_7 tqm (by decide)).trans (FR.at fσ_2 tqm (by decide))) ((FR.row fσ_7 tbf (fun j => by simp)).trans (FR.row fσ_2 tbf (fun j => by simp))) ((FR.at fσ_7 tw0 (by decide)).trans (FR.at fσ_2 tw0 (by decide))) ((FR.at fσ_7 tw1 (by decide)).trans (FR.at fσ_2 tw1 (by decide))) ((FR.at fσ_7 tw2 (by decide)).trans (FR.at fσ_2 tw2 (by decide))) ((FR.at fσ_7 tw3 (by decide)).trans (FR.at fσ_2 tw3 (by decide))) ((FR.row fσ_7 tbx (fun j => by simp)).trans (FR.row fσ_2 tbx (fun j => by simp))) ((FR.row fσ_7 tbi (fun j => by simp)).trans (FR.row fσ_2 tbi (fun j => by simp))) ((FR.at fσ_7 tqx (by decide)).trans (FR.at fσ_2 tqx (by decide)))
  have hI_10 : LI σ_7 qx bw w0 w1 w2 w3 qm bg bk bc bx bi bf := hSd.2
  refine lv_icmp_eq (tgt := 1240) hx hb dL_law_1123 (by decide) (fun _ => ?_) (fun c9 => absurd hSd.1 c9)
  exact kk _ _ _ _ hB hI_10 hS
theorem mw_5_166 : (.instanceMethod yX11_years : Cond) ∈ wsA := wsA_t (List.mem_append_right _ (List.mem_append_right _ (List.mem_append_right _ (List.mem_append_right _ (List.mem_append_left _ (List.mem_of_getElem? (l := tables_1_5) (i := 166) rfl)))))) rfl
theorem mw_5_167 : (.selects RX11 yX11_years yX11_years : Cond) ∈ wsA := wsA_t (List.mem_append_right _ (List.mem_append_right _ (List.mem_append_right _ (List.mem_append_right _ (List.mem_append_left _ (List.mem_of_getElem? (l := tables_1_5) (i := 167) rfl)))))) rfl
theorem mw_5_168 : (.code yX11_years cX11_years 4 (some .int) : Cond) ∈ wsA := wsA_t (List.mem_append_right _ (List.mem_append_right _ (List.mem_append_right _ (List.mem_append_right _ (List.mem_append_left _ (List.mem_of_getElem? (l := tables_1_5) (i := 168) rfl)))))) rfl
theorem mw_5_165 : (.methodLink RL 146 yX11_years : Cond) ∈ wsA := wsA_t (List.mem_append_right _ (List.mem_append_right _ (List.mem_append_right _ (List.mem_append_right _ (List.mem_append_left _ (List.mem_of_getElem? (l := tables_1_5) (i := 165) rfl)))))) rfl
theorem mw_8_115 : (.instanceMethod yX12_years : Cond) ∈ wsA := wsA_t (List.mem_append_right _ (List.mem_append_right _ (List.mem_append_right _ (List.mem_append_right _ (List.mem_append_right _ (List.mem_append_right _ (List.mem_append_right _ (List.mem_of_getElem? (l := tables_1_8) (i := 115) rfl)))))))) rfl
theorem mw_8_116 : (.selects RX12 yX12_years yX12_years : Cond) ∈ wsA := wsA_t (List.mem_append_right _ (List.mem_append_right _ (List.mem_append_right _ (List.mem_append_right _ (List.mem_append_right _ (List.mem_append_right _ (List.mem_append_right _ (List.mem_of_getElem? (l := tables_1_8) (i := 116) rfl)))))))) rfl
theorem mw_8_117 : (.code yX12_years cX12_years 8 (some .int) : Cond) ∈ wsA := wsA_t (List.mem_append_right _ (List.mem_append_right _ (List.mem_append_right _ (List.mem_append_right _ (List.mem_append_right _ (List.mem_append_right _ (List.mem_append_right _ (List.mem_of_getElem? (l := tables_1_8) (i := 117) rfl)))))))) rfl
theorem mw_8_114 : (.methodLink RL 149 yX12_years : Cond) ∈ wsA := wsA_t (List.mem_append_right _ (List.mem_append_right _ (List.mem_append_right _ (List.mem_append_right _ (List.mem_append_right _ (List.mem_append_right _ (List.mem_append_right _ (List.mem_of_getElem? (l := tables_1_8) (i := 114) rfl)))))))) rfl
theorem dL_law_1128 : decode cL_law 1128 = .ok (.aload_n 1, 1) := by decide +kernel
theorem dL_law_1129 : decode cL_law 1129 = .ok (.aload_n 0, 1) := by decide +kernel
theorem dL_law_1130 : decode cL_law 1130 = .ok (.iload_n 3, 1) := by decide +kernel
theorem dL_law_1131 : decode cL_law 1131 = .ok (.iconst 1, 1) := by decide +kernel
theorem dL_law_1132 : decode cL_law 1132 = .ok (.iadd, 1) := by decide +kernel
theorem dL_law_1133 : decode cL_law 1133 = .ok (.iaload, 1) := by decide +kernel
theorem dL_law_1134 : decode cL_law 1134 = .ok (.aload_n 0, 1) := by decide +kernel
theorem dL_law_1135 : decode cL_law 1135 = .ok (.iload_n 3, 1) := by decide +kernel
theorem dL_law_1136 : decode cL_law 1136 = .ok (.iconst 2, 1) := by decide +kernel
theorem dL_law_1137 : decode cL_law 1137 = .ok (.iadd, 1) := by decide +kernel
theorem dL_law_1138 : decode cL_law 1138 = .ok (.iaload, 1) := by decide +kernel
theorem dL_law_1139 : decode cL_law 1139 = .ok (.aload_n 0, 1) := by decide +kernel
theorem dL_law_1140 : decode cL_law 1140 = .ok (.iload_n 3, 1) := by decide +kernel
theorem dL_law_1141 : decode cL_law 1141 = .ok (.iconst 3, 1) := by decide +kernel
theorem dL_law_1142 : decode cL_law 1142 = .ok (.iadd, 1) := by decide +kernel
theorem dL_law_1143 : decode cL_law 1143 = .ok (.iaload, 1) := by decide +kernel
theorem dL_law_1144 : decode cL_law 1144 = .ok (.invokevirtual 146, 3) := by decide +kernel
theorem dL_law_1147 : decode cL_law 1147 = .ok (.pop, 1) := by decide +kernel
theorem dL_law_1148 : decode cL_law 1148 = .ok (.aload_n 2, 1) := by decide +kernel
theorem dL_law_1149 : decode cL_law 1149 = .ok (.aload_n 0, 1) := by decide +kernel
theorem dL_law_1150 : decode cL_law 1150 = .ok (.iload_n 3, 1) := by decide +kernel
theorem dL_law_1151 : decode cL_law 1151 = .ok (.iconst 1, 1) := by decide +kernel
theorem dL_law_1152 : decode cL_law 1152 = .ok (.iadd, 1) := by decide +kernel
theorem dL_law_1153 : decode cL_law 1153 = .ok (.iaload, 1) := by decide +kernel
theorem dL_law_1154 : decode cL_law 1154 = .ok (.aload_n 0, 1) := by decide +kernel
theorem dL_law_1155 : decode cL_law 1155 = .ok (.iload_n 3, 1) := by decide +kernel
theorem dL_law_1156 : decode cL_law 1156 = .ok (.iconst 2, 1) := by decide +kernel
theorem dL_law_1157 : decode cL_law 1157 = .ok (.iadd, 1) := by decide +kernel
theorem dL_law_1158 : decode cL_law 1158 = .ok (.iaload, 1) := by decide +kernel
theorem dL_law_1159 : decode cL_law 1159 = .ok (.aload_n 0, 1) := by decide +kernel
theorem dL_law_1160 : decode cL_law 1160 = .ok (.iload_n 3, 1) := by decide +kernel
theorem dL_law_1161 : decode cL_law 1161 = .ok (.iconst 3, 1) := by decide +kernel
theorem dL_law_1162 : decode cL_law 1162 = .ok (.iadd, 1) := by decide +kernel
theorem dL_law_1163 : decode cL_law 1163 = .ok (.iaload, 1) := by decide +kernel
theorem dL_law_1164 : decode cL_law 1164 = .ok (.invokevirtual 149, 3) := by decide +kernel
theorem dL_law_1167 : decode cL_law 1167 = .ok (.pop, 1) := by decide +kernel
theorem dL_law_1168 : decode cL_law 1168 = .ok (.goto 72, 3) := by decide +kernel
theorem mv_X11_years : MV RX11 yX11_years cX11_years 4 (some .int) 3 := ⟨mw_5_166, mw_5_167, mw_1_1, mw_5_168, ⟨rfl, by decide, by decide, by decide +kernel⟩⟩
theorem mv_X12_years : MV RX12 yX12_years cX12_years 8 (some .int) 3 := ⟨mw_8_115, mw_8_116, mw_1_13, mw_8_117, ⟨rfl, by decide, by decide, by decide +kernel⟩⟩
set_option maxHeartbeats 4000000 in
set_option maxRecDepth 100000 in
theorem law_c32 {p : Program} {e : Env} {s : State} {m : MethodId} {below : List Frame} {meth : Method} {c : Code} (l : Launch) {b Ls : Nat} {xs : Nat → Int32} (hLs : Ls ≤ 3072) (hx : p.tables.exec = Jvm.exec) (hb : c.code = code) (hr : meth.sig.returnType = ret) (hml : c.maxLocals = 4) (hown : s.vm.findClass RL = some m.cls) (hts : ∀ w ∈ wsA, w.before #[Value.ref b] s = true) (hX : va_X b Ls xs s s.heap) (hbl : b < s.heap.size) (hlocks : meth.locks = false) (D : va_G) (cA : Nat → ClassId) (hK : va_K D vwCl (tyA cA) s) (hN : NW s) (adK adV : Nat → Nat) (L : List Nat) (T : Nat → Nat) (r : Rg) (hLA : LA (fun q : Nat => s.heap.size ≤ q) L) (hG : GR L T r) (hV : SWL adK adV L s) (qx : Nat) (mqx : qx ∈ L) (tqx : T qx = 11) (bw : Nat) (mbw : bw ∈ L) (tbw : T bw = 10) (w0 : Nat) (mw0 : w0 ∈ L) (tw0 : T w0 = 13) (w1 : Nat) (mw1 : w1 ∈ L) (tw1 : T w1 = 14) (w2 : Nat) (mw2 : w2 ∈ L) (tw2 : T w2 = 15) (w3 : Nat) (mw3 : w3 ∈ L) (tw3 : T w3 = 16) (qm : Nat) (mqm : qm ∈ L) (tqm : T qm = 12) (bg : Nat) (mbg : bg ∈ L) (tbg : T bg = 62) (bk : Nat) (mbk : bk ∈ L) (tbk : T bk = 64) (bc : Nat) (mbc : bc ∈ L) (tbc : T bc = 65) (bx : Nat) (mbx : bx ∈ L) (tbx : T bx = 84) (bi : Nat) (mbi : bi ∈ L) (tbi : T bi = 85) (bf : Nat) (mbf : bf ∈ L) (tbf : T bf = 83) (ba : Nat) (mba : ba ∈ L) (tba : T ba = 60) (hbw : r qx 3 = some bw) (hba : r qx 4 = some ba) (hbg : r qm 3 = some bg) (hbk : r qm 5 = some bk) (hbc : r qm 6 = some bc) (hbx : r qm 42 = some bx) (hbi : r qm 43 = some bi) (hbf : r qm 41 = some bf) (hw0 : r ba 0 = some w0) (hw1 : r ba 1 = some w1) (hw2 : r ba 2 = some w2) (hw3 : r ba 3 = some w3) (hLG : LG T qx bw w0 w1 w2 w3 qm bg bk bc bx bi bf) (i : Int32) (li : 0 ≤ i.toInt) (ui : i.toInt ≤ 3066) (vi : i.toInt + 6 ≤ Ls) (σ0 σ : Sg) (ρ : Lg) (H : Heap) (hB : TS D cA L T r ry msL σ0 σ ρ H) (hI : LI σ qx bw w0 w1 w2 w3 qm bg bk bc bx bi bf) (locs : List Loc) (hS : va_S (fun q : Nat => s.heap.size ≤ q) s.heap H locs) (ls : Array Slot) (hl : lv_has ls 4 [(3, .int i), (2, .ref qm), (1, .ref qx), (0, .ref b)]) (kk : ∀ (σ2 : Sg) (ρ2 : Lg) (H : Heap) (locs : List Loc), TS D cA L T r ry msL σ0 σ2 ρ2 H → LI σ2 qx bw w0 w1 w2 w3 qm bg bk bc bx bi bf → va_S (fun q : Nat => s.heap.size ≤ q) s.heap H locs → W p l e room_1 s m #[Value.ref b] below meth c H locs 378 16064 (lw_Z below #[Value.ref b] s) (F0 m 1240 ls [])) : W p l e room_1 s m #[Value.ref b] below meth c H locs 378 16064 (lw_Z below #[Value.ref b] s) (F0 m 1128 ls []) := by
  have hA : ∀ q : Nat, s.heap.size ≤ q → (fun q : Nat => s.heap.size ≤ q) q := fun _ h => h
  have hbA : ¬ (fun q : Nat => s.heap.size ≤ q) b := Nat.not_le.mpr hbl
  refine lv_aload_n hx hb dL_law_1128 rfl (lv_at hl 2 rfl) ?_
  refine lv_aload_n hx hb dL_law_1129 rfl (lv_at hl 3 rfl) ?_
  refine lv_iload_n hx hb dL_law_1130 rfl (lv_at hl 0 rfl) ?_
  refine lv_iconst (v := 1) hx hb dL_law_1131 (by decide) ?_
  refine lv_iadd hx hb dL_law_1132 ?_
  refine lv_topi (fun x_1 ex_1 => ?_)
  have vx_1 := b_add (rfl : i.toInt = _) (by decide : (1 : Int32).toInt = 1) ex_1 (by omega) (by omega)
  refine va_sld hx hb hX hbl hbA hS (i_in (by omega) (by omega)) dL_law_1133 ?_
  refine tp_i (w := xs (i.toInt.toNat + 1)) (by rw [show x_1.toNatClampNeg = i.toInt.toNat + 1 from (by have hn : x_1.toNatClampNeg = x_1.toInt.toNat := rfl; omega)]) ?_
  refine lv_aload_n hx hb dL_law_1134 rfl (lv_at hl 3 rfl) ?_
  refine lv_iload_n hx hb dL_law_1135 rfl (lv_at hl 0 rfl) ?_
  refine lv_iconst (v := 2) hx hb dL_law_1136 (by decide) ?_
  refine lv_iadd hx hb dL_law_1137 ?_
  refine lv_topi (fun x_2 ex_2 => ?_)
  have vx_2 := b_add (rfl : i.toInt = _) (by decide : (2 : Int32).toInt = 2) ex_2 (by omega) (by omega)
  refine va_sld hx hb hX hbl hbA hS (i_in (by omega) (by omega)) dL_law_1138 ?_
  refine tp_i (w := xs (i.toInt.toNat + 2)) (by rw [show x_2.toNatClampNeg = i.toInt.toNat + 2 from (by have hn : x_2.toNatClampNeg = x_2.toInt.toNat := rfl; omega)]) ?_
  refine lv_aload_n hx hb dL_law_1139 rfl (lv_at hl 3 rfl) ?_
  refine lv_iload_n hx hb dL_law_1140 rfl (lv_at hl 0 rfl) ?_
  refine lv_iconst (v := 3) hx hb dL_law_1141 (by decide) ?_
  refine lv_iadd hx hb dL_law_1142 ?_
  refine lv_topi (fun x_3 ex_3 => ?_)
  have vx_3 := b_add (rfl : i.toInt = _) (by decide : (3 : Int32).toInt = 3) ex_3 (by omega) (by omega)
  refine va_sld hx hb hX hbl hbA hS (i_in (by omega) (by omega)) dL_law_1143 ?_
  refine tp_i (w := xs (i.toInt.toNat + 3)) (by rw [show x_3.toNatClampNeg = i.toInt.toNat + 3 from (by have hn : x_3.toNatClampNeg = x_3.toInt.toNat := rfl; omega)]) ?_
  refine t_ci (va_runV (As := [.int (xs (i.toInt.toNat + 1)), .int (xs (i.toInt.toNat + 2)), .int (xs (i.toInt.toNat + 3))]) (rest := []) ⟨hx, hb, hml, hown, hts⟩ (cy_X11_years l D cA L T r hG hLA.1 σ ρ hB.2.1 _ qx mqx tqx (xs (i.toInt.toNat + 1)) (xs (i.toInt.toNat + 2)) (xs (i.toInt.toNat + 3))) (cV hts mv_X11_years mw_5_165 rfl rfl ⟨Nat.le_of_ble_eq_true rfl, Nat.le_of_ble_eq_true rfl⟩) (pV hB.1 hK hN mqx tqx (show shp cA 11 _ _ _ = .inr (11, Fs11 _ _ _) from rfl) rfl) rfl rfl hl.1 rfl (lv_room (Nat.le_of_ble_eq_true rfl)) dL_law_1144 ⟨Nat.le_of_ble_eq_true rfl, Nat.le_of_ble_eq_true rfl⟩) hLA hA hB hS (by decide) (fun x_6 σ_4 ρ_5 H locs hB fσ_4 pσ_4 hS => ?_)
  have hI_7 : LI σ_4 qx bw w0 w1 w2 w3 qm bg bk bc bx bi bf := LI.fr hLG hI fσ_4 (by decide)
  refine lv_pop hx hb dL_law_1147 rfl ?_
  refine lv_aload_n hx hb dL_law_1148 rfl (lv_at hl 1 rfl) ?_
  refine lv_aload_n hx hb dL_law_1149 rfl (lv_at hl 3 rfl) ?_
  refine lv_iload_n hx hb dL_law_1150 rfl (lv_at hl 0 rfl) ?_
  refine lv_iconst (v := 1) hx hb dL_law_1151 (by decide) ?_
  refine lv_iadd hx hb dL_law_1152 ?_
  refine lv_topi (fun x_8 ex_8 => ?_)
  have vx_8 := b_add (rfl : i.toInt = _) (by decide : (1 : Int32).toInt = 1) ex_8 (by omega) (by omega)
  refine va_sld hx hb hX hbl hbA hS (i_in (by omega) (by omega)) dL_law_1153 ?_
  refine tp_i (w := xs (i.toInt.toNat + 1)) (by rw [show x_8.toNatClampNeg = i.toInt.toNat + 1 from (by have hn : x_8.toNatClampNeg = x_8.toInt.toNat := rfl; omega)]) ?_
  refine lv_aload_n hx hb dL_law_1154 rfl (lv_at hl 3 rfl) ?_
  refine lv_iload_n hx hb dL_law_1155 rfl (lv_at hl 0 rfl) ?_
  refine lv_iconst (v := 2) hx hb dL_law_1156 (by decide) ?_
  refine lv_iadd hx hb dL_law_1157 ?_
  refine lv_topi (fun x_9 ex_9 => ?_)
  have vx_9 := b_add (rfl : i.toInt = _) (by decide : (2 : Int32).toInt = 2) ex_9 (by omega) (by omega)
  refine va_sld hx hb hX hbl hbA hS (i_in (by omega) (by omega)) dL_law_1158 ?_
  refine tp_i (w := xs (i.toInt.toNat + 2)) (by rw [show x_9.toNatClampNeg = i.toInt.toNat + 2 from (by have hn : x_9.toNatClampNeg = x_9.toInt.toNat := rfl; omega)]) ?_
  refine lv_aload_n hx hb dL_law_1159 rfl (lv_at hl 3 rfl) ?_
  refine lv_iload_n hx hb dL_law_1160 rfl (lv_at hl 0 rfl) ?_
  refine lv_iconst (v := 3) hx hb dL_law_1161 (by decide) ?_
  refine lv_iadd hx hb dL_law_1162 ?_
  refine lv_topi (fun x_10 ex_10 => ?_)
  have vx_10 := b_add (rfl : i.toInt = _) (by decide : (3 : Int32).toInt = 3) ex_10 (by omega) (by omega)
  refine va_sld hx hb hX hbl hbA hS (i_in (by omega) (by omega)) dL_law_1163 ?_
  refine tp_i (w := xs (i.toInt.toNat + 3)) (by rw [show x_10.toNatClampNeg = i.toInt.toNat + 3 from (by have hn : x_10.toNatClampNeg = x_10.toInt.toNat := rfl; omega)]) ?_
  refine t_ci (va_runV (As := [.int (xs (i.toInt.toNat + 1)), .int (xs (i.toInt.toNat + 2)), .int (xs (i.toInt.toNat + 3))]) (rest := []) ⟨hx, hb, hml, hown, hts⟩ (cy_X12_years l D cA L T r hG hLA.1 σ_4 ρ_5 hB.2.1 _ qm mqm tqm (xs (i.toInt.toNat + 1)) (xs (i.toInt.toNat + 2)) (xs (i.toInt.toNat + 3)) bg hbg mbg tbg bk hbk mbk tbk bc hbc mbc tbc hI_7.1 hI_7.2.1) (cV hts mv_X12_years mw_8_114 rfl rfl ⟨Nat.le_of_ble_eq_true rfl, Nat.le_of_ble_eq_true rfl⟩) (pV hB.1 hK hN mqm tqm (show shp cA 12 _ _ _ = .inr (12, Fs12 _ _ _) from rfl) rfl) rfl rfl hl.1 rfl (lv_room (Nat.le_of_ble_eq_true rfl)) dL_law_1164 ⟨Nat.le_of_ble_eq_true rfl, Nat.le_of_ble_eq_true rfl⟩) hLA hA hB hS (by decide) (fun x_13 σ_11 ρ_12 H locs hB fσ_11 pσ_11 hS => ?_)
  have hI_14 : LI σ_11 qx bw w0 w1 w2 w3 qm bg bk bc bx bi bf := LI.fr hLG hI_7 fσ_11 (by decide)
  refine lv_pop hx hb dL_law_1167 rfl ?_
  refine lv_goto (tgt := 1240) hx hb dL_law_1168 (by decide) ?_
  exact kk _ _ _ _ hB hI_14 hS
theorem mw_5_186 : (.instanceMethod yX11_count : Cond) ∈ wsA := wsA_t (List.mem_append_right _ (List.mem_append_right _ (List.mem_append_right _ (List.mem_append_right _ (List.mem_append_left _ (List.mem_of_getElem? (l := tables_1_5) (i := 186) rfl)))))) rfl
theorem mw_5_187 : (.selects RX11 yX11_count yX11_count : Cond) ∈ wsA := wsA_t (List.mem_append_right _ (List.mem_append_right _ (List.mem_append_right _ (List.mem_append_right _ (List.mem_append_left _ (List.mem_of_getElem? (l := tables_1_5) (i := 187) rfl)))))) rfl
theorem mw_5_188 : (.code yX11_count cX11_count 4 (some .int) : Cond) ∈ wsA := wsA_t (List.mem_append_right _ (List.mem_append_right _ (List.mem_append_right _ (List.mem_append_right _ (List.mem_append_left _ (List.mem_of_getElem? (l := tables_1_5) (i := 188) rfl)))))) rfl
theorem mw_5_185 : (.methodLink RL 150 yX11_count : Cond) ∈ wsA := wsA_t (List.mem_append_right _ (List.mem_append_right _ (List.mem_append_right _ (List.mem_append_right _ (List.mem_append_left _ (List.mem_of_getElem? (l := tables_1_5) (i := 185) rfl)))))) rfl
theorem mw_8_131 : (.instanceMethod yX12_count : Cond) ∈ wsA := wsA_t (List.mem_append_right _ (List.mem_append_right _ (List.mem_append_right _ (List.mem_append_right _ (List.mem_append_right _ (List.mem_append_right _ (List.mem_append_right _ (List.mem_of_getElem? (l := tables_1_8) (i := 131) rfl)))))))) rfl
theorem mw_8_132 : (.selects RX12 yX12_count yX12_count : Cond) ∈ wsA := wsA_t (List.mem_append_right _ (List.mem_append_right _ (List.mem_append_right _ (List.mem_append_right _ (List.mem_append_right _ (List.mem_append_right _ (List.mem_append_right _ (List.mem_of_getElem? (l := tables_1_8) (i := 132) rfl)))))))) rfl
theorem mw_8_133 : (.code yX12_count cX12_count 4 (some .int) : Cond) ∈ wsA := wsA_t (List.mem_append_right _ (List.mem_append_right _ (List.mem_append_right _ (List.mem_append_right _ (List.mem_append_right _ (List.mem_append_right _ (List.mem_append_right _ (List.mem_of_getElem? (l := tables_1_8) (i := 133) rfl)))))))) rfl
theorem mw_8_130 : (.methodLink RL 153 yX12_count : Cond) ∈ wsA := wsA_t (List.mem_append_right _ (List.mem_append_right _ (List.mem_append_right _ (List.mem_append_right _ (List.mem_append_right _ (List.mem_append_right _ (List.mem_append_right _ (List.mem_of_getElem? (l := tables_1_8) (i := 130) rfl)))))))) rfl
theorem dL_law_1171 : decode cL_law 1171 = .ok (.aload_n 1, 1) := by decide +kernel
theorem dL_law_1172 : decode cL_law 1172 = .ok (.aload_n 0, 1) := by decide +kernel
theorem dL_law_1173 : decode cL_law 1173 = .ok (.iload_n 3, 1) := by decide +kernel
theorem dL_law_1174 : decode cL_law 1174 = .ok (.iconst 1, 1) := by decide +kernel
theorem dL_law_1175 : decode cL_law 1175 = .ok (.iadd, 1) := by decide +kernel
theorem dL_law_1176 : decode cL_law 1176 = .ok (.iaload, 1) := by decide +kernel
theorem dL_law_1177 : decode cL_law 1177 = .ok (.invokevirtual 150, 3) := by decide +kernel
theorem dL_law_1180 : decode cL_law 1180 = .ok (.pop, 1) := by decide +kernel
theorem dL_law_1181 : decode cL_law 1181 = .ok (.aload_n 2, 1) := by decide +kernel
theorem dL_law_1182 : decode cL_law 1182 = .ok (.aload_n 0, 1) := by decide +kernel
theorem dL_law_1183 : decode cL_law 1183 = .ok (.iload_n 3, 1) := by decide +kernel
theorem dL_law_1184 : decode cL_law 1184 = .ok (.iconst 1, 1) := by decide +kernel
theorem dL_law_1185 : decode cL_law 1185 = .ok (.iadd, 1) := by decide +kernel
theorem dL_law_1186 : decode cL_law 1186 = .ok (.iaload, 1) := by decide +kernel
theorem dL_law_1187 : decode cL_law 1187 = .ok (.invokevirtual 153, 3) := by decide +kernel
theorem dL_law_1190 : decode cL_law 1190 = .ok (.pop, 1) := by decide +kernel
theorem dL_law_1191 : decode cL_law 1191 = .ok (.goto 49, 3) := by decide +kernel
theorem mv_X11_count : MV RX11 yX11_count cX11_count 4 (some .int) 1 := ⟨mw_5_186, mw_5_187, mw_1_1, mw_5_188, ⟨rfl, by decide, by decide, by decide +kernel⟩⟩
theorem mv_X12_count : MV RX12 yX12_count cX12_count 4 (some .int) 1 := ⟨mw_8_131, mw_8_132, mw_1_13, mw_8_133, ⟨rfl, by decide, by decide, by decide +kernel⟩⟩
set_option maxHeartbeats 4000000 in
set_option maxRecDepth 100000 in
theorem law_c33 {p : Program} {e : Env} {s : State} {m : MethodId} {below : List Frame} {meth : Method} {c : Code} (l : Launch) {b Ls : Nat} {xs : Nat → Int32} (hLs : Ls ≤ 3072) (hx : p.tables.exec = Jvm.exec) (hb : c.code = code) (hr : meth.sig.returnType = ret) (hml : c.maxLocals = 4) (hown : s.vm.findClass RL = some m.cls) (hts : ∀ w ∈ wsA, w.before #[Value.ref b] s = true) (hX : va_X b Ls xs s s.heap) (hbl : b < s.heap.size) (hlocks : meth.locks = false) (D : va_G) (cA : Nat → ClassId) (hK : va_K D vwCl (tyA cA) s) (hN : NW s) (adK adV : Nat → Nat) (L : List Nat) (T : Nat → Nat) (r : Rg) (hLA : LA (fun q : Nat => s.heap.size ≤ q) L) (hG : GR L T r) (hV : SWL adK adV L s) (qx : Nat) (mqx : qx ∈ L) (tqx : T qx = 11) (bw : Nat) (mbw : bw ∈ L) (tbw : T bw = 10) (w0 : Nat) (mw0 : w0 ∈ L) (tw0 : T w0 = 13) (w1 : Nat) (mw1 : w1 ∈ L) (tw1 : T w1 = 14) (w2 : Nat) (mw2 : w2 ∈ L) (tw2 : T w2 = 15) (w3 : Nat) (mw3 : w3 ∈ L) (tw3 : T w3 = 16) (qm : Nat) (mqm : qm ∈ L) (tqm : T qm = 12) (bg : Nat) (mbg : bg ∈ L) (tbg : T bg = 62) (bk : Nat) (mbk : bk ∈ L) (tbk : T bk = 64) (bc : Nat) (mbc : bc ∈ L) (tbc : T bc = 65) (bx : Nat) (mbx : bx ∈ L) (tbx : T bx = 84) (bi : Nat) (mbi : bi ∈ L) (tbi : T bi = 85) (bf : Nat) (mbf : bf ∈ L) (tbf : T bf = 83) (ba : Nat) (mba : ba ∈ L) (tba : T ba = 60) (hbw : r qx 3 = some bw) (hba : r qx 4 = some ba) (hbg : r qm 3 = some bg) (hbk : r qm 5 = some bk) (hbc : r qm 6 = some bc) (hbx : r qm 42 = some bx) (hbi : r qm 43 = some bi) (hbf : r qm 41 = some bf) (hw0 : r ba 0 = some w0) (hw1 : r ba 1 = some w1) (hw2 : r ba 2 = some w2) (hw3 : r ba 3 = some w3) (hLG : LG T qx bw w0 w1 w2 w3 qm bg bk bc bx bi bf) (i : Int32) (li : 0 ≤ i.toInt) (ui : i.toInt ≤ 3066) (vi : i.toInt + 6 ≤ Ls) (σ0 σ : Sg) (ρ : Lg) (H : Heap) (hB : TS D cA L T r ry msL σ0 σ ρ H) (hI : LI σ qx bw w0 w1 w2 w3 qm bg bk bc bx bi bf) (locs : List Loc) (hS : va_S (fun q : Nat => s.heap.size ≤ q) s.heap H locs) (ls : Array Slot) (hl : lv_has ls 4 [(3, .int i), (2, .ref qm), (1, .ref qx), (0, .ref b)]) (kk : ∀ (σ2 : Sg) (ρ2 : Lg) (H : Heap) (locs : List Loc), TS D cA L T r ry msL σ0 σ2 ρ2 H → LI σ2 qx bw w0 w1 w2 w3 qm bg bk bc bx bi bf → va_S (fun q : Nat => s.heap.size ≤ q) s.heap H locs → W p l e room_1 s m #[Value.ref b] below meth c H locs 378 16064 (lw_Z below #[Value.ref b] s) (F0 m 1240 ls [])) : W p l e room_1 s m #[Value.ref b] below meth c H locs 378 16064 (lw_Z below #[Value.ref b] s) (F0 m 1171 ls []) := by
  have hA : ∀ q : Nat, s.heap.size ≤ q → (fun q : Nat => s.heap.size ≤ q) q := fun _ h => h
  have hbA : ¬ (fun q : Nat => s.heap.size ≤ q) b := Nat.not_le.mpr hbl
  refine lv_aload_n hx hb dL_law_1171 rfl (lv_at hl 2 rfl) ?_
  refine lv_aload_n hx hb dL_law_1172 rfl (lv_at hl 3 rfl) ?_
  refine lv_iload_n hx hb dL_law_1173 rfl (lv_at hl 0 rfl) ?_
  refine lv_iconst (v := 1) hx hb dL_law_1174 (by decide) ?_
  refine lv_iadd hx hb dL_law_1175 ?_
  refine lv_topi (fun x_1 ex_1 => ?_)
  have vx_1 := b_add (rfl : i.toInt = _) (by decide : (1 : Int32).toInt = 1) ex_1 (by omega) (by omega)
  refine va_sld hx hb hX hbl hbA hS (i_in (by omega) (by omega)) dL_law_1176 ?_
  refine tp_i (w := xs (i.toInt.toNat + 1)) (by rw [show x_1.toNatClampNeg = i.toInt.toNat + 1 from (by have hn : x_1.toNatClampNeg = x_1.toInt.toNat := rfl; omega)]) ?_
  refine t_ci (va_runV (As := [.int (xs (i.toInt.toNat + 1))]) (rest := []) ⟨hx, hb, hml, hown, hts⟩ (cy_X11_count l D cA L T r hG hLA.1 σ ρ hB.2.1 _ qx mqx tqx (xs (i.toInt.toNat + 1))) (cV hts mv_X11_count mw_5_185 rfl rfl ⟨Nat.le_of_ble_eq_true rfl, Nat.le_of_ble_eq_true rfl⟩) (pV hB.1 hK hN mqx tqx (show shp cA 11 _ _ _ = .inr (11, Fs11 _ _ _) from rfl) rfl) rfl rfl hl.1 rfl (lv_room (Nat.le_of_ble_eq_true rfl)) dL_law_1177 ⟨Nat.le_of_ble_eq_true rfl, Nat.le_of_ble_eq_true rfl⟩) hLA hA hB hS (by decide) (fun x_4 σ_2 ρ_3 H locs hB fσ_2 pσ_2 hS => ?_)
  have hI_5 : LI σ_2 qx bw w0 w1 w2 w3 qm bg bk bc bx bi bf := LI.fr hLG hI fσ_2 (by decide)
  refine lv_pop hx hb dL_law_1180 rfl ?_
  refine lv_aload_n hx hb dL_law_1181 rfl (lv_at hl 1 rfl) ?_
  refine lv_aload_n hx hb dL_law_1182 rfl (lv_at hl 3 rfl) ?_
  refine lv_iload_n hx hb dL_law_1183 rfl (lv_at hl 0 rfl) ?_
  refine lv_iconst (v := 1) hx hb dL_law_1184 (by decide) ?_
  refine lv_iadd hx hb dL_law_1185 ?_
  refine lv_topi (fun x_6 ex_6 => ?_)
  have vx_6 := b_add (rfl : i.toInt = _) (by decide : (1 : Int32).toInt = 1) ex_6 (by omega) (by omega)
  refine va_sld hx hb hX hbl hbA hS (i_in (by omega) (by omega)) dL_law_1186 ?_
  refine tp_i (w := xs (i.toInt.toNat + 1)) (by rw [show x_6.toNatClampNeg = i.toInt.toNat + 1 from (by have hn : x_6.toNatClampNeg = x_6.toInt.toNat := rfl; omega)]) ?_
  refine t_ci (va_runV (As := [.int (xs (i.toInt.toNat + 1))]) (rest := []) ⟨hx, hb, hml, hown, hts⟩ (cy_X12_count l D cA L T r hG hLA.1 σ_2 ρ_3 hB.2.1 _ qm mqm tqm (xs (i.toInt.toNat + 1))) (cV hts mv_X12_count mw_8_130 rfl rfl ⟨Nat.le_of_ble_eq_true rfl, Nat.le_of_ble_eq_true rfl⟩) (pV hB.1 hK hN mqm tqm (show shp cA 12 _ _ _ = .inr (12, Fs12 _ _ _) from rfl) rfl) rfl rfl hl.1 rfl (lv_room (Nat.le_of_ble_eq_true rfl)) dL_law_1187 ⟨Nat.le_of_ble_eq_true rfl, Nat.le_of_ble_eq_true rfl⟩) hLA hA hB hS (by decide) (fun x_9 σ_7 ρ_8 H locs hB fσ_7 pσ_7 hS => ?_)
  have hI_10 : LI σ_7 qx bw w0 w1 w2 w3 qm bg bk bc bx bi bf := LI.fr hLG hI_5 fσ_7 (by decide)
  refine lv_pop hx hb dL_law_1190 rfl ?_
  refine lv_goto (tgt := 1240) hx hb dL_law_1191 (by decide) ?_
  exact kk _ _ _ _ hB hI_10 hS
theorem mw_5_198 : (.instanceMethod yX11_image : Cond) ∈ wsA := wsA_t (List.mem_append_right _ (List.mem_append_right _ (List.mem_append_right _ (List.mem_append_right _ (List.mem_append_left _ (List.mem_of_getElem? (l := tables_1_5) (i := 198) rfl)))))) rfl
theorem mw_5_199 : (.selects RX11 yX11_image yX11_image : Cond) ∈ wsA := wsA_t (List.mem_append_right _ (List.mem_append_right _ (List.mem_append_right _ (List.mem_append_right _ (List.mem_append_left _ (List.mem_of_getElem? (l := tables_1_5) (i := 199) rfl)))))) rfl
theorem mw_5_200 : (.code yX11_image cX11_image 2 (some .int) : Cond) ∈ wsA := wsA_t (List.mem_append_right _ (List.mem_append_right _ (List.mem_append_right _ (List.mem_append_right _ (List.mem_append_left _ (List.mem_of_getElem? (l := tables_1_5) (i := 200) rfl)))))) rfl
theorem mw_5_197 : (.methodLink RL 154 yX11_image : Cond) ∈ wsA := wsA_t (List.mem_append_right _ (List.mem_append_right _ (List.mem_append_right _ (List.mem_append_right _ (List.mem_append_left _ (List.mem_of_getElem? (l := tables_1_5) (i := 197) rfl)))))) rfl
theorem mw_8_135 : (.instanceMethod yX12_image : Cond) ∈ wsA := wsA_t (List.mem_append_right _ (List.mem_append_right _ (List.mem_append_right _ (List.mem_append_right _ (List.mem_append_right _ (List.mem_append_right _ (List.mem_append_right _ (List.mem_of_getElem? (l := tables_1_8) (i := 135) rfl)))))))) rfl
theorem mw_8_136 : (.selects RX12 yX12_image yX12_image : Cond) ∈ wsA := wsA_t (List.mem_append_right _ (List.mem_append_right _ (List.mem_append_right _ (List.mem_append_right _ (List.mem_append_right _ (List.mem_append_right _ (List.mem_append_right _ (List.mem_of_getElem? (l := tables_1_8) (i := 136) rfl)))))))) rfl
theorem mw_8_137 : (.code yX12_image cX12_image 3 (some .int) : Cond) ∈ wsA := wsA_t (List.mem_append_right _ (List.mem_append_right _ (List.mem_append_right _ (List.mem_append_right _ (List.mem_append_right _ (List.mem_append_right _ (List.mem_append_right _ (List.mem_of_getElem? (l := tables_1_8) (i := 137) rfl)))))))) rfl
theorem mw_8_134 : (.methodLink RL 157 yX12_image : Cond) ∈ wsA := wsA_t (List.mem_append_right _ (List.mem_append_right _ (List.mem_append_right _ (List.mem_append_right _ (List.mem_append_right _ (List.mem_append_right _ (List.mem_append_right _ (List.mem_of_getElem? (l := tables_1_8) (i := 134) rfl)))))))) rfl
theorem dL_law_1194 : decode cL_law 1194 = .ok (.aload_n 1, 1) := by decide +kernel
theorem dL_law_1195 : decode cL_law 1195 = .ok (.aload_n 0, 1) := by decide +kernel
theorem dL_law_1196 : decode cL_law 1196 = .ok (.iload_n 3, 1) := by decide +kernel
theorem dL_law_1197 : decode cL_law 1197 = .ok (.iconst 1, 1) := by decide +kernel
theorem dL_law_1198 : decode cL_law 1198 = .ok (.iadd, 1) := by decide +kernel
theorem dL_law_1199 : decode cL_law 1199 = .ok (.iaload, 1) := by decide +kernel
theorem dL_law_1200 : decode cL_law 1200 = .ok (.invokevirtual 154, 3) := by decide +kernel
theorem dL_law_1203 : decode cL_law 1203 = .ok (.pop, 1) := by decide +kernel
theorem dL_law_1204 : decode cL_law 1204 = .ok (.aload_n 2, 1) := by decide +kernel
theorem dL_law_1205 : decode cL_law 1205 = .ok (.aload_n 0, 1) := by decide +kernel
theorem dL_law_1206 : decode cL_law 1206 = .ok (.iload_n 3, 1) := by decide +kernel
theorem dL_law_1207 : decode cL_law 1207 = .ok (.iconst 1, 1) := by decide +kernel
theorem dL_law_1208 : decode cL_law 1208 = .ok (.iadd, 1) := by decide +kernel
theorem dL_law_1209 : decode cL_law 1209 = .ok (.iaload, 1) := by decide +kernel
theorem dL_law_1210 : decode cL_law 1210 = .ok (.invokevirtual 157, 3) := by decide +kernel
theorem dL_law_1213 : decode cL_law 1213 = .ok (.pop, 1) := by decide +kernel
theorem dL_law_1214 : decode cL_law 1214 = .ok (.goto 26, 3) := by decide +kernel
theorem mv_X11_image : MV RX11 yX11_image cX11_image 2 (some .int) 1 := ⟨mw_5_198, mw_5_199, mw_1_1, mw_5_200, ⟨rfl, by decide, by decide, by decide +kernel⟩⟩
theorem mv_X12_image : MV RX12 yX12_image cX12_image 3 (some .int) 1 := ⟨mw_8_135, mw_8_136, mw_1_13, mw_8_137, ⟨rfl, by decide, by decide, by decide +kernel⟩⟩
set_option maxHeartbeats 4000000 in
set_option maxRecDepth 100000 in
theorem law_c34 {p : Program} {e : Env} {s : State} {m : MethodId} {below : List Frame} {meth : Method} {c : Code} (l : Launch) {b Ls : Nat} {xs : Nat → Int32} (hLs : Ls ≤ 3072) (hx : p.tables.exec = Jvm.exec) (hb : c.code = code) (hr : meth.sig.returnType = ret) (hml : c.maxLocals = 4) (hown : s.vm.findClass RL = some m.cls) (hts : ∀ w ∈ wsA, w.before #[Value.ref b] s = true) (hX : va_X b Ls xs s s.heap) (hbl : b < s.heap.size) (hlocks : meth.locks = false) (D : va_G) (cA : Nat → ClassId) (hK : va_K D vwCl (tyA cA) s) (hN : NW s) (adK adV : Nat → Nat) (L : List Nat) (T : Nat → Nat) (r : Rg) (hLA : LA (fun q : Nat => s.heap.size ≤ q) L) (hG : GR L T r) (hV : SWL adK adV L s) (qx : Nat) (mqx : qx ∈ L) (tqx : T qx = 11) (bw : Nat) (mbw : bw ∈ L) (tbw : T bw = 10) (w0 : Nat) (mw0 : w0 ∈ L) (tw0 : T w0 = 13) (w1 : Nat) (mw1 : w1 ∈ L) (tw1 : T w1 = 14) (w2 : Nat) (mw2 : w2 ∈ L) (tw2 : T w2 = 15) (w3 : Nat) (mw3 : w3 ∈ L) (tw3 : T w3 = 16) (qm : Nat) (mqm : qm ∈ L) (tqm : T qm = 12) (bg : Nat) (mbg : bg ∈ L) (tbg : T bg = 62) (bk : Nat) (mbk : bk ∈ L) (tbk : T bk = 64) (bc : Nat) (mbc : bc ∈ L) (tbc : T bc = 65) (bx : Nat) (mbx : bx ∈ L) (tbx : T bx = 84) (bi : Nat) (mbi : bi ∈ L) (tbi : T bi = 85) (bf : Nat) (mbf : bf ∈ L) (tbf : T bf = 83) (ba : Nat) (mba : ba ∈ L) (tba : T ba = 60) (hbw : r qx 3 = some bw) (hba : r qx 4 = some ba) (hbg : r qm 3 = some bg) (hbk : r qm 5 = some bk) (hbc : r qm 6 = some bc) (hbx : r qm 42 = some bx) (hbi : r qm 43 = some bi) (hbf : r qm 41 = some bf) (hw0 : r ba 0 = some w0) (hw1 : r ba 1 = some w1) (hw2 : r ba 2 = some w2) (hw3 : r ba 3 = some w3) (hLG : LG T qx bw w0 w1 w2 w3 qm bg bk bc bx bi bf) (i : Int32) (li : 0 ≤ i.toInt) (ui : i.toInt ≤ 3066) (vi : i.toInt + 6 ≤ Ls) (σ0 σ : Sg) (ρ : Lg) (H : Heap) (hB : TS D cA L T r ry msL σ0 σ ρ H) (hI : LI σ qx bw w0 w1 w2 w3 qm bg bk bc bx bi bf) (locs : List Loc) (hS : va_S (fun q : Nat => s.heap.size ≤ q) s.heap H locs) (ls : Array Slot) (hl : lv_has ls 4 [(3, .int i), (2, .ref qm), (1, .ref qx), (0, .ref b)]) (kk : ∀ (σ2 : Sg) (ρ2 : Lg) (H : Heap) (locs : List Loc), TS D cA L T r ry msL σ0 σ2 ρ2 H → LI σ2 qx bw w0 w1 w2 w3 qm bg bk bc bx bi bf → va_S (fun q : Nat => s.heap.size ≤ q) s.heap H locs → W p l e room_1 s m #[Value.ref b] below meth c H locs 378 16064 (lw_Z below #[Value.ref b] s) (F0 m 1240 ls [])) : W p l e room_1 s m #[Value.ref b] below meth c H locs 378 16064 (lw_Z below #[Value.ref b] s) (F0 m 1194 ls []) := by
  have hA : ∀ q : Nat, s.heap.size ≤ q → (fun q : Nat => s.heap.size ≤ q) q := fun _ h => h
  have hbA : ¬ (fun q : Nat => s.heap.size ≤ q) b := Nat.not_le.mpr hbl
  refine lv_aload_n hx hb dL_law_1194 rfl (lv_at hl 2 rfl) ?_
  refine lv_aload_n hx hb dL_law_1195 rfl (lv_at hl 3 rfl) ?_
  refine lv_iload_n hx hb dL_law_1196 rfl (lv_at hl 0 rfl) ?_
  refine lv_iconst (v := 1) hx hb dL_law_1197 (by decide) ?_
  refine lv_iadd hx hb dL_law_1198 ?_
  refine lv_topi (fun x_1 ex_1 => ?_)
  have vx_1 := b_add (rfl : i.toInt = _) (by decide : (1 : Int32).toInt = 1) ex_1 (by omega) (by omega)
  refine va_sld hx hb hX hbl hbA hS (i_in (by omega) (by omega)) dL_law_1199 ?_
  refine tp_i (w := xs (i.toInt.toNat + 1)) (by rw [show x_1.toNatClampNeg = i.toInt.toNat + 1 from (by have hn : x_1.toNatClampNeg = x_1.toInt.toNat := rfl; omega)]) ?_
  refine t_ci (va_runV (As := [.int (xs (i.toInt.toNat + 1))]) (rest := []) ⟨hx, hb, hml, hown, hts⟩ (cy_X11_image l D cA L T r hG hLA.1 σ ρ hB.2.1 _ qx mqx tqx (xs (i.toInt.toNat + 1)) bw hbw mbw tbw ba hba mba tba w0 hw0 mw0 tw0 w1 hw1 mw1 tw1 w2 hw2 mw2 tw2 w3 hw3 mw3 tw3) (cV hts mv_X11_image mw_5_197 rfl rfl ⟨Nat.le_of_ble_eq_true rfl, Nat.le_of_ble_eq_true rfl⟩) (pV hB.1 hK hN mqx tqx (show shp cA 11 _ _ _ = .inr (11, Fs11 _ _ _) from rfl) rfl) rfl rfl hl.1 rfl (lv_room (Nat.le_of_ble_eq_true rfl)) dL_law_1200 ⟨Nat.le_of_ble_eq_true rfl, Nat.le_of_ble_eq_true rfl⟩) hLA hA hB hS (by decide) (fun x_4 σ_2 ρ_3 H locs hB fσ_2 pσ_2 hS => ?_)
  obtain ⟨g_5, g_6, g_7, g_8, g_9⟩ := pσ_2
  refine lv_pop hx hb dL_law_1203 rfl ?_
  refine lv_aload_n hx hb dL_law_1204 rfl (lv_at hl 1 rfl) ?_
  refine lv_aload_n hx hb dL_law_1205 rfl (lv_at hl 3 rfl) ?_
  refine lv_iload_n hx hb dL_law_1206 rfl (lv_at hl 0 rfl) ?_
  refine lv_iconst (v := 1) hx hb dL_law_1207 (by decide) ?_
  refine lv_iadd hx hb dL_law_1208 ?_
  refine lv_topi (fun x_11 ex_11 => ?_)
  have vx_11 := b_add (rfl : i.toInt = _) (by decide : (1 : Int32).toInt = 1) ex_11 (by omega) (by omega)
  refine va_sld hx hb hX hbl hbA hS (i_in (by omega) (by omega)) dL_law_1209 ?_
  refine tp_i (w := xs (i.toInt.toNat + 1)) (by rw [show x_11.toNatClampNeg = i.toInt.toNat + 1 from (by have hn : x_11.toNatClampNeg = x_11.toInt.toNat := rfl; omega)]) ?_
  refine t_ci (va_runV (As := [.int (xs (i.toInt.toNat + 1))]) (rest := []) ⟨hx, hb, hml, hown, hts⟩ (cz_X12_image l D cA L T r hG hLA.1 σ_2 ρ_3 hB.2.1 _ qm mqm tqm (xs (i.toInt.toNat + 1)) bx hbx mbx tbx bi hbi mbi tbi bf hbf mbf tbf) (cV hts mv_X12_image mw_8_134 rfl rfl ⟨Nat.le_of_ble_eq_true rfl, Nat.le_of_ble_eq_true rfl⟩) (pV hB.1 hK hN mqm tqm (show shp cA 12 _ _ _ = .inr (12, Fs12 _ _ _) from rfl) rfl) rfl rfl hl.1 rfl (lv_room (Nat.le_of_ble_eq_true rfl)) dL_law_1210 ⟨Nat.le_of_ble_eq_true rfl, Nat.le_of_ble_eq_true rfl⟩) hLA hA hB hS (by decide) (fun x_14 σ_12 ρ_13 H locs hB fσ_12 pσ_12 hS => ?_)
  obtain ⟨g_15, g_16, g_17, g_18⟩ := pσ_12
  have hI_19 : LI σ_12 qx bw w0 w1 w2 w3 qm bg bk bc bx bi bf := LI.image hI g_5 g_6 g_7 g_8 g_9 g_15 g_16 g_17 g_18 (FR.at fσ_2 tqm (by decide)) (FR.at fσ_2 tqm (by decide)) (FR.row fσ_2 tbx (fun j => by simp)) (FR.row fσ_2 tbi (fun j => by simp)) (FR.row fσ_2 tbf (fun j => by simp)) (FR.at fσ_12 tw0 (by decide)) (FR.at fσ_12 tw1 (by decide)) (FR.at fσ_12 tw2 (by decide)) (FR.at fσ_12 tw3 (by decide)) (FR.at fσ_12 tqx (by decide)) ((FR.row fσ_12 tbg (fun j => by simp)).trans (FR.row fσ_2 tbg (fun j => by simp))) ((FR.row fσ_12 tbk (fun j => by simp)).trans (FR.row fσ_2 tbk (fun j => by simp))) ((FR.row fσ_12 tbc (fun j => by simp)).trans (FR.row fσ_2 tbc (fun j => by simp))) ((FR.at fσ_12 tqm (by decide)).trans (FR.at fσ_2 tqm (by decide))) ((FR.at fσ_12 tqm (by decide)).trans (FR.at fσ_2 tqm (by decide))) ((FR.at fσ_12 tqm (by decide)).trans (FR.at fσ_2 tqm (by decide))) ((FR.at fσ_12 tbw (by decide)).trans (FR.at fσ_2 tbw (by decide)))
  refine lv_pop hx hb dL_law_1213 rfl ?_
  refine lv_goto (tgt := 1240) hx hb dL_law_1214 (by decide) ?_
  exact kk _ _ _ _ hB hI_19 hS
theorem mw_5_207 : (.instanceMethod yX11_back : Cond) ∈ wsA := wsA_t (List.mem_append_right _ (List.mem_append_right _ (List.mem_append_right _ (List.mem_append_right _ (List.mem_append_left _ (List.mem_of_getElem? (l := tables_1_5) (i := 207) rfl)))))) rfl
theorem mw_5_208 : (.selects RX11 yX11_back yX11_back : Cond) ∈ wsA := wsA_t (List.mem_append_right _ (List.mem_append_right _ (List.mem_append_right _ (List.mem_append_right _ (List.mem_append_left _ (List.mem_of_getElem? (l := tables_1_5) (i := 208) rfl)))))) rfl
theorem mw_5_209 : (.code yX11_back cX11_back 2 (some .int) : Cond) ∈ wsA := wsA_t (List.mem_append_right _ (List.mem_append_right _ (List.mem_append_right _ (List.mem_append_right _ (List.mem_append_left _ (List.mem_of_getElem? (l := tables_1_5) (i := 209) rfl)))))) rfl
theorem mw_5_206 : (.methodLink RL 158 yX11_back : Cond) ∈ wsA := wsA_t (List.mem_append_right _ (List.mem_append_right _ (List.mem_append_right _ (List.mem_append_right _ (List.mem_append_left _ (List.mem_of_getElem? (l := tables_1_5) (i := 206) rfl)))))) rfl
theorem mw_8_140 : (.instanceMethod yX12_back : Cond) ∈ wsA := wsA_t (List.mem_append_right _ (List.mem_append_right _ (List.mem_append_right _ (List.mem_append_right _ (List.mem_append_right _ (List.mem_append_right _ (List.mem_append_right _ (List.mem_of_getElem? (l := tables_1_8) (i := 140) rfl)))))))) rfl
theorem mw_8_141 : (.selects RX12 yX12_back yX12_back : Cond) ∈ wsA := wsA_t (List.mem_append_right _ (List.mem_append_right _ (List.mem_append_right _ (List.mem_append_right _ (List.mem_append_right _ (List.mem_append_right _ (List.mem_append_right _ (List.mem_of_getElem? (l := tables_1_8) (i := 141) rfl)))))))) rfl
theorem mw_8_142 : (.code yX12_back cX12_back 3 (some .int) : Cond) ∈ wsA := wsA_t (List.mem_append_right _ (List.mem_append_right _ (List.mem_append_right _ (List.mem_append_right _ (List.mem_append_right _ (List.mem_append_right _ (List.mem_append_right _ (List.mem_of_getElem? (l := tables_1_8) (i := 142) rfl)))))))) rfl
theorem mw_8_139 : (.methodLink RL 161 yX12_back : Cond) ∈ wsA := wsA_t (List.mem_append_right _ (List.mem_append_right _ (List.mem_append_right _ (List.mem_append_right _ (List.mem_append_right _ (List.mem_append_right _ (List.mem_append_right _ (List.mem_of_getElem? (l := tables_1_8) (i := 139) rfl)))))))) rfl
theorem dL_law_1217 : decode cL_law 1217 = .ok (.aload_n 1, 1) := by decide +kernel
theorem dL_law_1218 : decode cL_law 1218 = .ok (.aload_n 0, 1) := by decide +kernel
theorem dL_law_1219 : decode cL_law 1219 = .ok (.iload_n 3, 1) := by decide +kernel
theorem dL_law_1220 : decode cL_law 1220 = .ok (.iconst 1, 1) := by decide +kernel
theorem dL_law_1221 : decode cL_law 1221 = .ok (.iadd, 1) := by decide +kernel
theorem dL_law_1222 : decode cL_law 1222 = .ok (.iaload, 1) := by decide +kernel
theorem dL_law_1223 : decode cL_law 1223 = .ok (.invokevirtual 158, 3) := by decide +kernel
theorem dL_law_1226 : decode cL_law 1226 = .ok (.pop, 1) := by decide +kernel
theorem dL_law_1227 : decode cL_law 1227 = .ok (.aload_n 2, 1) := by decide +kernel
theorem dL_law_1228 : decode cL_law 1228 = .ok (.aload_n 0, 1) := by decide +kernel
theorem dL_law_1229 : decode cL_law 1229 = .ok (.iload_n 3, 1) := by decide +kernel
theorem dL_law_1230 : decode cL_law 1230 = .ok (.iconst 1, 1) := by decide +kernel
theorem dL_law_1231 : decode cL_law 1231 = .ok (.iadd, 1) := by decide +kernel
theorem dL_law_1232 : decode cL_law 1232 = .ok (.iaload, 1) := by decide +kernel
theorem dL_law_1233 : decode cL_law 1233 = .ok (.invokevirtual 161, 3) := by decide +kernel
theorem dL_law_1236 : decode cL_law 1236 = .ok (.pop, 1) := by decide +kernel
theorem dL_law_1237 : decode cL_law 1237 = .ok (.goto 3, 3) := by decide +kernel
theorem mv_X11_back : MV RX11 yX11_back cX11_back 2 (some .int) 1 := ⟨mw_5_207, mw_5_208, mw_1_1, mw_5_209, ⟨rfl, by decide, by decide, by decide +kernel⟩⟩
theorem mv_X12_back : MV RX12 yX12_back cX12_back 3 (some .int) 1 := ⟨mw_8_140, mw_8_141, mw_1_13, mw_8_142, ⟨rfl, by decide, by decide, by decide +kernel⟩⟩
set_option maxHeartbeats 4000000 in
set_option maxRecDepth 100000 in
theorem law_c35 {p : Program} {e : Env} {s : State} {m : MethodId} {below : List Frame} {meth : Method} {c : Code} (l : Launch) {b Ls : Nat} {xs : Nat → Int32} (hLs : Ls ≤ 3072) (hx : p.tables.exec = Jvm.exec) (hb : c.code = code) (hr : meth.sig.returnType = ret) (hml : c.maxLocals = 4) (hown : s.vm.findClass RL = some m.cls) (hts : ∀ w ∈ wsA, w.before #[Value.ref b] s = true) (hX : va_X b Ls xs s s.heap) (hbl : b < s.heap.size) (hlocks : meth.locks = false) (D : va_G) (cA : Nat → ClassId) (hK : va_K D vwCl (tyA cA) s) (hN : NW s) (adK adV : Nat → Nat) (L : List Nat) (T : Nat → Nat) (r : Rg) (hLA : LA (fun q : Nat => s.heap.size ≤ q) L) (hG : GR L T r) (hV : SWL adK adV L s) (qx : Nat) (mqx : qx ∈ L) (tqx : T qx = 11) (bw : Nat) (mbw : bw ∈ L) (tbw : T bw = 10) (w0 : Nat) (mw0 : w0 ∈ L) (tw0 : T w0 = 13) (w1 : Nat) (mw1 : w1 ∈ L) (tw1 : T w1 = 14) (w2 : Nat) (mw2 : w2 ∈ L) (tw2 : T w2 = 15) (w3 : Nat) (mw3 : w3 ∈ L) (tw3 : T w3 = 16) (qm : Nat) (mqm : qm ∈ L) (tqm : T qm = 12) (bg : Nat) (mbg : bg ∈ L) (tbg : T bg = 62) (bk : Nat) (mbk : bk ∈ L) (tbk : T bk = 64) (bc : Nat) (mbc : bc ∈ L) (tbc : T bc = 65) (bx : Nat) (mbx : bx ∈ L) (tbx : T bx = 84) (bi : Nat) (mbi : bi ∈ L) (tbi : T bi = 85) (bf : Nat) (mbf : bf ∈ L) (tbf : T bf = 83) (ba : Nat) (mba : ba ∈ L) (tba : T ba = 60) (hbw : r qx 3 = some bw) (hba : r qx 4 = some ba) (hbg : r qm 3 = some bg) (hbk : r qm 5 = some bk) (hbc : r qm 6 = some bc) (hbx : r qm 42 = some bx) (hbi : r qm 43 = some bi) (hbf : r qm 41 = some bf) (hw0 : r ba 0 = some w0) (hw1 : r ba 1 = some w1) (hw2 : r ba 2 = some w2) (hw3 : r ba 3 = some w3) (hLG : LG T qx bw w0 w1 w2 w3 qm bg bk bc bx bi bf) (i : Int32) (li : 0 ≤ i.toInt) (ui : i.toInt ≤ 3066) (vi : i.toInt + 6 ≤ Ls) (σ0 σ : Sg) (ρ : Lg) (H : Heap) (hB : TS D cA L T r ry msL σ0 σ ρ H) (hI : LI σ qx bw w0 w1 w2 w3 qm bg bk bc bx bi bf) (locs : List Loc) (hS : va_S (fun q : Nat => s.heap.size ≤ q) s.heap H locs) (ls : Array Slot) (hl : lv_has ls 4 [(3, .int i), (2, .ref qm), (1, .ref qx), (0, .ref b)]) (kk : ∀ (σ2 : Sg) (ρ2 : Lg) (H : Heap) (locs : List Loc), TS D cA L T r ry msL σ0 σ2 ρ2 H → LI σ2 qx bw w0 w1 w2 w3 qm bg bk bc bx bi bf → va_S (fun q : Nat => s.heap.size ≤ q) s.heap H locs → W p l e room_1 s m #[Value.ref b] below meth c H locs 378 16064 (lw_Z below #[Value.ref b] s) (F0 m 1240 ls [])) : W p l e room_1 s m #[Value.ref b] below meth c H locs 378 16064 (lw_Z below #[Value.ref b] s) (F0 m 1217 ls []) := by
  have hA : ∀ q : Nat, s.heap.size ≤ q → (fun q : Nat => s.heap.size ≤ q) q := fun _ h => h
  have hbA : ¬ (fun q : Nat => s.heap.size ≤ q) b := Nat.not_le.mpr hbl
  refine lv_aload_n hx hb dL_law_1217 rfl (lv_at hl 2 rfl) ?_
  refine lv_aload_n hx hb dL_law_1218 rfl (lv_at hl 3 rfl) ?_
  refine lv_iload_n hx hb dL_law_1219 rfl (lv_at hl 0 rfl) ?_
  refine lv_iconst (v := 1) hx hb dL_law_1220 (by decide) ?_
  refine lv_iadd hx hb dL_law_1221 ?_
  refine lv_topi (fun x_1 ex_1 => ?_)
  have vx_1 := b_add (rfl : i.toInt = _) (by decide : (1 : Int32).toInt = 1) ex_1 (by omega) (by omega)
  refine va_sld hx hb hX hbl hbA hS (i_in (by omega) (by omega)) dL_law_1222 ?_
  refine tp_i (w := xs (i.toInt.toNat + 1)) (by rw [show x_1.toNatClampNeg = i.toInt.toNat + 1 from (by have hn : x_1.toNatClampNeg = x_1.toInt.toNat := rfl; omega)]) ?_
  refine t_ci (va_runV (As := [.int (xs (i.toInt.toNat + 1))]) (rest := []) ⟨hx, hb, hml, hown, hts⟩ (cz_X11_back l D cA L T r hG hLA.1 σ ρ hB.2.1 _ qx mqx tqx (xs (i.toInt.toNat + 1)) bw hbw mbw tbw ba hba mba tba w0 hw0 mw0 tw0 w1 hw1 mw1 tw1 w2 hw2 mw2 tw2 w3 hw3 mw3 tw3) (cV hts mv_X11_back mw_5_206 rfl rfl ⟨Nat.le_of_ble_eq_true rfl, Nat.le_of_ble_eq_true rfl⟩) (pV hB.1 hK hN mqx tqx (show shp cA 11 _ _ _ = .inr (11, Fs11 _ _ _) from rfl) rfl) rfl rfl hl.1 rfl (lv_room (Nat.le_of_ble_eq_true rfl)) dL_law_1223 ⟨Nat.le_of_ble_eq_true rfl, Nat.le_of_ble_eq_true rfl⟩) hLA hA hB hS (by decide) (fun x_4 σ_2 ρ_3 H locs hB fσ_2 pσ_2 hS => ?_)
  obtain ⟨g_5, g_6, g_7, g_8, g_9⟩ := pσ_2
  refine lv_pop hx hb dL_law_1226 rfl ?_
  refine lv_aload_n hx hb dL_law_1227 rfl (lv_at hl 1 rfl) ?_
  refine lv_aload_n hx hb dL_law_1228 rfl (lv_at hl 3 rfl) ?_
  refine lv_iload_n hx hb dL_law_1229 rfl (lv_at hl 0 rfl) ?_
  refine lv_iconst (v := 1) hx hb dL_law_1230 (by decide) ?_
  refine lv_iadd hx hb dL_law_1231 ?_
  refine lv_topi (fun x_11 ex_11 => ?_)
  have vx_11 := b_add (rfl : i.toInt = _) (by decide : (1 : Int32).toInt = 1) ex_11 (by omega) (by omega)
  refine va_sld hx hb hX hbl hbA hS (i_in (by omega) (by omega)) dL_law_1232 ?_
  refine tp_i (w := xs (i.toInt.toNat + 1)) (by rw [show x_11.toNatClampNeg = i.toInt.toNat + 1 from (by have hn : x_11.toNatClampNeg = x_11.toInt.toNat := rfl; omega)]) ?_
  refine t_ci (va_runV (As := [.int (xs (i.toInt.toNat + 1))]) (rest := []) ⟨hx, hb, hml, hown, hts⟩ (cz_X12_back l D cA L T r hG hLA.1 σ_2 ρ_3 hB.2.1 _ qm mqm tqm (xs (i.toInt.toNat + 1)) bx hbx mbx tbx bi hbi mbi tbi bf hbf mbf tbf) (cV hts mv_X12_back mw_8_139 rfl rfl ⟨Nat.le_of_ble_eq_true rfl, Nat.le_of_ble_eq_true rfl⟩) (pV hB.1 hK hN mqm tqm (show shp cA 12 _ _ _ = .inr (12, Fs12 _ _ _) from rfl) rfl) rfl rfl hl.1 rfl (lv_room (Nat.le_of_ble_eq_true rfl)) dL_law_1233 ⟨Nat.le_of_ble_eq_true rfl, Nat.le_of_ble_eq_true rfl⟩) hLA hA hB hS (by decide) (fun x_14 σ_12 ρ_13 H locs hB fσ_12 pσ_12 hS => ?_)
  obtain ⟨g_15, g_16, g_17, g_18, g_19⟩ := pσ_12
  have hI_20 : LI σ_12 qx bw w0 w1 w2 w3 qm bg bk bc bx bi bf := LI.back hI g_5 g_6 g_7 g_8 g_9 g_15 g_16 g_17 g_18 g_19 (FR.at fσ_2 tqm (by decide)) (FR.at fσ_2 tqm (by decide)) (FR.row fσ_2 tbx (fun j => by simp)) (FR.row fσ_2 tbi (fun j => by simp)) (FR.row fσ_2 tbf (fun j => by simp)) (FR.at fσ_12 tbw (by decide)) ((FR.row fσ_12 tbg (fun j => by simp)).trans (FR.row fσ_2 tbg (fun j => by simp))) ((FR.row fσ_12 tbk (fun j => by simp)).trans (FR.row fσ_2 tbk (fun j => by simp))) ((FR.row fσ_12 tbc (fun j => by simp)).trans (FR.row fσ_2 tbc (fun j => by simp))) ((FR.at fσ_12 tqm (by decide)).trans (FR.at fσ_2 tqm (by decide))) ((FR.row fσ_12 tbf (fun j => by simp)).trans (FR.row fσ_2 tbf (fun j => by simp))) ((FR.at fσ_12 tw0 (by decide)).trans (FR.at fσ_2 tw0 (by decide))) ((FR.at fσ_12 tw1 (by decide)).trans (FR.at fσ_2 tw1 (by decide))) ((FR.at fσ_12 tw2 (by decide)).trans (FR.at fσ_2 tw2 (by decide))) ((FR.at fσ_12 tw3 (by decide)).trans (FR.at fσ_2 tw3 (by decide))) ((FR.row fσ_12 tbx (fun j => by simp)).trans (FR.row fσ_2 tbx (fun j => by simp))) ((FR.row fσ_12 tbi (fun j => by simp)).trans (FR.row fσ_2 tbi (fun j => by simp))) ((FR.at fσ_12 tqx (by decide)).trans (FR.at fσ_2 tqx (by decide)))
  refine lv_pop hx hb dL_law_1236 rfl ?_
  refine lv_goto (tgt := 1240) hx hb dL_law_1237 (by decide) ?_
  exact kk _ _ _ _ hB hI_20 hS
