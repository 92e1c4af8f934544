theorem dL_law_18 : decode cL_law 18 = .ok (.iload_n 3, 1) := by decide +kernel
theorem dL_law_19 : decode cL_law 19 = .ok (.aload_n 0, 1) := by decide +kernel
theorem dL_law_20 : decode cL_law 20 = .ok (.arraylength, 1) := by decide +kernel
theorem dL_law_21 : decode cL_law 21 = .ok (.bipush 6, 2) := by decide +kernel
theorem dL_law_23 : decode cL_law 23 = .ok (.isub, 1) := by decide +kernel
theorem dL_law_24 : decode cL_law 24 = .ok (.if_icmp .gt 1222, 3) := by decide +kernel
theorem dL_law_1246 : decode cL_law 1246 = .ok (.iconst 1, 1) := by decide +kernel
theorem dL_law_1247 : decode cL_law 1247 = .ok (.ireturn, 1) := by decide +kernel
theorem dL_law_27 : decode cL_law 27 = .ok (.aload_n 0, 1) := by decide +kernel
theorem dL_law_28 : decode cL_law 28 = .ok (.iload_n 3, 1) := by decide +kernel
theorem dL_law_29 : decode cL_law 29 = .ok (.iaload, 1) := by decide +kernel
theorem dL_law_30 : decode cL_law 30 = .ok (.bipush 63, 2) := by decide +kernel
theorem dL_law_32 : decode cL_law 32 = .ok (.iand, 1) := by decide +kernel
theorem dL_law_1240 : decode cL_law 1240 = .ok (.iinc 3 6, 3) := by decide +kernel
theorem dL_law_1243 : decode cL_law 1243 = .ok (.goto (-1225), 3) := by decide +kernel
theorem dL_law_33 : decode cL_law 33 = .ok (.tableswitch 1207 0 35 #[159, 222, 245, 258, 271, 294, 327, 360, 393, 406, 429, 452, 485, 518, 551, 594, 607, 640, 673, 696, 729, 762, 795, 828, 861, 894, 917, 950, 973, 1016, 1039, 1072, 1095, 1138, 1161, 1184], 159) := by decide +kernel
set_option maxHeartbeats 8000000 in
set_option maxRecDepth 100000 in
theorem law_body {p : Program} {e : Env} {s : State} {m : MethodId} {below : List Frame} {meth : Method} {c : Code} (l : Launch) {b Ls : Nat} {xs : Nat → Int32} (hLs : Ls ≤ 3072) (hx : p.tables.exec = Jvm.exec) (hb : c.code = code) (hr : meth.sig.returnType = ret) (hml : c.maxLocals = 4) (hown : s.vm.findClass RL = some m.cls) (hts : ∀ w ∈ wsA, w.before #[Value.ref b] s = true) (hX : va_X b Ls xs s s.heap) (hbl : b < s.heap.size) (hlocks : meth.locks = false) (D : va_G) (cA : Nat → ClassId) (hK : va_K D vwCl (tyA cA) s) (hN : NW s) (adK adV : Nat → Nat) (L : List Nat) (T : Nat → Nat) (r : Rg) (hLA : LA (fun q : Nat => s.heap.size ≤ q) L) (hG : GR L T r) (hV : SWL adK adV L s) (qx : Nat) (mqx : qx ∈ L) (tqx : T qx = 11) (bw : Nat) (mbw : bw ∈ L) (tbw : T bw = 10) (w0 : Nat) (mw0 : w0 ∈ L) (tw0 : T w0 = 13) (w1 : Nat) (mw1 : w1 ∈ L) (tw1 : T w1 = 14) (w2 : Nat) (mw2 : w2 ∈ L) (tw2 : T w2 = 15) (w3 : Nat) (mw3 : w3 ∈ L) (tw3 : T w3 = 16) (qm : Nat) (mqm : qm ∈ L) (tqm : T qm = 12) (bg : Nat) (mbg : bg ∈ L) (tbg : T bg = 62) (bk : Nat) (mbk : bk ∈ L) (tbk : T bk = 64) (bc : Nat) (mbc : bc ∈ L) (tbc : T bc = 65) (bx : Nat) (mbx : bx ∈ L) (tbx : T bx = 84) (bi : Nat) (mbi : bi ∈ L) (tbi : T bi = 85) (bf : Nat) (mbf : bf ∈ L) (tbf : T bf = 83) (ba : Nat) (mba : ba ∈ L) (tba : T ba = 60) (hbw : r qx 3 = some bw) (hba : r qx 4 = some ba) (hbg : r qm 3 = some bg) (hbk : r qm 5 = some bk) (hbc : r qm 6 = some bc) (hbx : r qm 42 = some bx) (hbi : r qm 43 = some bi) (hbf : r qm 41 = some bf) (hw0 : r ba 0 = some w0) (hw1 : r ba 1 = some w1) (hw2 : r ba 2 = some w2) (hw3 : r ba 3 = some w3) (hLG : LG T qx bw w0 w1 w2 w3 qm bg bk bc bx bi bf) (σ : Sg) (ρ : Lg) (H : Heap) (hB0 : TP D cA L T r σ ρ H) (hW : WT L ry T σ) (hI : LI σ qx bw w0 w1 w2 w3 qm bg bk bc bx bi bf) (locs : List Loc) (hS : va_S (fun q : Nat => s.heap.size ≤ q) s.heap H locs) (ls : Array Slot) (hl : lv_has ls 4 [(3, .int 0), (2, .ref qm), (1, .ref qx), (0, .ref b)]) : W p l e room_1 s m #[Value.ref b] below meth c H locs 378 16064 (lw_Z below #[Value.ref b] s) (F0 m 18 ls []) := by
  have hA : ∀ q : Nat, s.heap.size ≤ q → (fun q : Nat => s.heap.size ≤ q) q := fun _ h => h
  have hbA : ¬ (fun q : Nat => s.heap.size ≤ q) b := Nat.not_le.mpr hbl
  have hB : TS D cA L T r ry msL σ σ ρ H := ⟨hB0, hW, FR.rf⟩
  refine w_loop (α := Int32 × Sg × Lg) (fun (i_1, σ_2, ρ_3) H locs ls => 0 ≤ i_1.toInt ∧ i_1.toInt ≤ 3072 ∧ (LI σ_2 qx bw w0 w1 w2 w3 qm bg bk bc bx bi bf) ∧ TS D cA L T r ry msL σ σ_2 ρ_3 H ∧ va_S (fun q : Nat => s.heap.size ≤ q) s.heap H locs ∧ lv_has ls 4 [(3, .int i_1), (2, .ref qm), (1, .ref qx), (0, .ref b)]) (fun (i_1, σ_2, ρ_3) => (3100 - i_1.toInt).toNat) ?_ ⟨0, σ, ρ⟩ ⟨(by decide), (by decide), hI, hB, hS, lv_sub hl [0, 1, 2, 3] rfl⟩
  rintro ⟨i_1, σ_2, ρ_3⟩ H locs ls ⟨li_1, ui_1, g_5, hB, hS, hl⟩ ih_4
  refine lv_iload_n hx hb dL_law_18 rfl (lv_at hl 0 rfl) ?_
  refine lv_aload_n hx hb dL_law_19 rfl (lv_at hl 3 rfl) ?_
  refine va_slen hx hb hX hbl hbA hS dL_law_20 ?_
  refine lv_topi (fun x_6 ex_6 => ?_)
  have vx_6 : x_6.toInt = (Ls : Int) := by rw [ex_6]; exact nI_toInt (by omega)
  refine lv_bipush (v := 6) hx hb dL_law_21 (by decide) ?_
  refine lv_isub hx hb dL_law_23 ?_
  refine lv_topi (fun x_7 ex_7 => ?_)
  have vx_7 := b_sub (rfl : x_6.toInt = _) (by decide : (6 : Int32).toInt = 6) ex_7 (by omega) (by omega)
  refine lv_icmp_gt (tgt := 1246) hx hb dL_law_24 (by decide) (fun c_8 => ?_) (fun c_8 => ?_)
  · skip
    have uc_8 := j_lt c_8
    refine lv_iconst (v := 1) hx hb dL_law_1246 (by decide) ?_
    refine va_forget hS.2.2 ?_
    refine W.widen (k := 600000) (n := 7302250) (Nat.le_of_ble_eq_true rfl) (Nat.le_of_ble_eq_true rfl) ?_
    exact lw_ret hx hb hr hlocks dL_law_1247
  · skip
    have uc_8 := j_nlt c_8
    refine lv_aload_n hx hb dL_law_27 rfl (lv_at hl 3 rfl) ?_
    refine lv_iload_n hx hb dL_law_28 rfl (lv_at hl 0 rfl) ?_
    refine va_sld hx hb hX hbl hbA hS (i_in (by omega) (by omega)) dL_law_29 ?_
    refine tp_i (w := xs (i_1.toInt.toNat + 0)) (by rw [show i_1.toNatClampNeg = i_1.toInt.toNat + 0 from (by have hn : i_1.toNatClampNeg = i_1.toInt.toNat := rfl; omega)]) ?_
    refine lv_bipush (v := 63) hx hb dL_law_30 (by decide) ?_
    refine lv_iand hx hb dL_law_32 ?_
    refine lv_topi (fun x_9 ex_9 => ?_)
    obtain ⟨lx_9, ux_9⟩ := and_m 6 (n := 63) (by decide) (by decide) (by decide) ex_9
    have tail : ∀ (σ2 : Sg) (ρ2 : Lg) (H : Heap) (locs : List Loc), TS D cA L T r ry msL σ σ2 ρ2 H → LI σ2 qx bw w0 w1 w2 w3 qm bg bk bc bx bi bf → va_S (fun q : Nat => s.heap.size ≤ q) s.heap H locs → W p l e room_1 s m #[Value.ref b] below meth c H locs 378 16064 (lw_Z below #[Value.ref b] s) (F0 m 1240 ls []) := by
      intro σ2 ρ2 H locs hB hI9 hS
      obtain ⟨x_10, ex_10⟩ : ∃ y : Int32, y = i_1 + 6 := ⟨_, rfl⟩
      have vx_10 := b_add (rfl : i_1.toInt = _) (by decide : (6 : Int32).toInt = 6) ex_10 (by omega) (by omega)
      refine lv_iinc (v := x_10) (lv' := [(3, .int x_10), (2, .ref qm), (1, .ref qx), (0, .ref b)]) hx hb dL_law_1240 hl (k := 0) rfl (by rw [ex_10]; rfl) (by decide) rfl (fun ls hl => ?_)
      refine lv_goto (tgt := 18) hx hb dL_law_1243 (by decide) ?_
      exact ih_4 ⟨x_10, σ2, ρ2⟩ _ _ _ ⟨(by omega), (by omega), hI9, hB, hS, lv_sub hl [0, 1, 2, 3] rfl⟩ (by show (3100 - x_10.toInt).toNat < (3100 - i_1.toInt).toNat; omega)
    by_cases c_11 : x_9.toInt < 0 ∨ 35 < x_9.toInt
    · skip
      refine lv_tableOut (tgt := 1240) hx hb dL_law_33 c_11 (by decide) ?_
      exact tail _ _ _ _ hB g_5 hS
    · skip
      rcases (show x_9.toInt = 0 ∨ x_9.toInt = 1 ∨ x_9.toInt = 2 ∨ x_9.toInt = 3 ∨ x_9.toInt = 4 ∨ x_9.toInt = 5 ∨ x_9.toInt = 6 ∨ x_9.toInt = 7 ∨ x_9.toInt = 8 ∨ x_9.toInt = 9 ∨ x_9.toInt = 10 ∨ x_9.toInt = 11 ∨ x_9.toInt = 12 ∨ x_9.toInt = 13 ∨ x_9.toInt = 14 ∨ x_9.toInt = 15 ∨ x_9.toInt = 16 ∨ x_9.toInt = 17 ∨ x_9.toInt = 18 ∨ x_9.toInt = 19 ∨ x_9.toInt = 20 ∨ x_9.toInt = 21 ∨ x_9.toInt = 22 ∨ x_9.toInt = 23 ∨ x_9.toInt = 24 ∨ x_9.toInt = 25 ∨ x_9.toInt = 26 ∨ x_9.toInt = 27 ∨ x_9.toInt = 28 ∨ x_9.toInt = 29 ∨ x_9.toInt = 30 ∨ x_9.toInt = 31 ∨ x_9.toInt = 32 ∨ x_9.toInt = 33 ∨ x_9.toInt = 34 ∨ x_9.toInt = 35 by omega) with c_11j | c_11j | c_11j | c_11j | c_11j | c_11j | c_11j | c_11j | c_11j | c_11j | c_11j | c_11j | c_11j | c_11j | c_11j | c_11j | c_11j | c_11j | c_11j | c_11j | c_11j | c_11j | c_11j | c_11j | c_11j | c_11j | c_11j | c_11j | c_11j | c_11j | c_11j | c_11j | c_11j | c_11j | c_11j | c_11j
      · skip
        have c_11x : x_9 = 0 := i_is (by decide) c_11j
        subst c_11x
        refine lv_tableIn (tgt := 192) hx hb dL_law_33 (by decide) (by decide) rfl (by decide) ?_
        exact law_c0 l hLs hx hb hr hml hown hts hX hbl hlocks D cA hK hN adK adV L T r hLA hG hV qx mqx tqx bw mbw tbw w0 mw0 tw0 w1 mw1 tw1 w2 mw2 tw2 w3 mw3 tw3 qm mqm tqm bg mbg tbg bk mbk tbk bc mbc tbc bx mbx tbx bi mbi tbi bf mbf tbf ba mba tba hbw hba hbg hbk hbc hbx hbi hbf hw0 hw1 hw2 hw3 hLG i_1 (by omega) (by omega) (by omega) _ _ _ _ hB g_5 _ hS _ hl tail
      · skip
        have c_11x : x_9 = 1 := i_is (by decide) c_11j
        subst c_11x
        refine lv_tableIn (tgt := 255) hx hb dL_law_33 (by decide) (by decide) rfl (by decide) ?_
        exact law_c1 l hLs hx hb hr hml hown hts hX hbl hlocks D cA hK hN adK adV L T r hLA hG hV qx mqx tqx bw mbw tbw w0 mw0 tw0 w1 mw1 tw1 w2 mw2 tw2 w3 mw3 tw3 qm mqm tqm bg mbg tbg bk mbk tbk bc mbc tbc bx mbx tbx bi mbi tbi bf mbf tbf ba mba tba hbw hba hbg hbk hbc hbx hbi hbf hw0 hw1 hw2 hw3 hLG i_1 (by omega) (by omega) (by omega) _ _ _ _ hB g_5 _ hS _ hl tail
      · skip
        have c_11x : x_9 = 2 := i_is (by decide) c_11j
        subst c_11x
        refine lv_tableIn (tgt := 278) hx hb dL_law_33 (by decide) (by decide) rfl (by decide) ?_
        exact law_c2 l hLs hx hb hr hml hown hts hX hbl hlocks D cA hK hN adK adV L T r hLA hG hV qx mqx tqx bw mbw tbw w0 mw0 tw0 w1 mw1 tw1 w2 mw2 tw2 w3 mw3 tw3 qm mqm tqm bg mbg tbg bk mbk tbk bc mbc tbc bx mbx tbx bi mbi tbi bf mbf tbf ba mba tba hbw hba hbg hbk hbc hbx hbi hbf hw0 hw1 hw2 hw3 hLG i_1 (by omega) (by omega) (by omega) _ _ _ _ hB g_5 _ hS _ hl tail
      · skip
        have c_11x : x_9 = 3 := i_is (by decide) c_11j
        subst c_11x
        refine lv_tableIn (tgt := 291) hx hb dL_law_33 (by decide) (by decide) rfl (by decide) ?_
        exact law_c3 l hLs hx hb hr hml hown hts hX hbl hlocks D cA hK hN adK adV L T r hLA hG hV qx mqx tqx bw mbw tbw w0 mw0 tw0 w1 mw1 tw1 w2 mw2 tw2 w3 mw3 tw3 qm mqm tqm bg mbg tbg bk mbk tbk bc mbc tbc bx mbx tbx bi mbi tbi bf mbf tbf ba mba tba hbw hba hbg hbk hbc hbx hbi hbf hw0 hw1 hw2 hw3 hLG i_1 (by omega) (by omega) (by omega) _ _ _ _ hB g_5 _ hS _ hl tail
      · skip
        have c_11x : x_9 = 4 := i_is (by decide) c_11j
        subst c_11x
        refine lv_tableIn (tgt := 304) hx hb dL_law_33 (by decide) (by decide) rfl (by decide) ?_
        exact law_c4 l hLs hx hb hr hml hown hts hX hbl hlocks D cA hK hN adK adV L T r hLA hG hV qx mqx tqx bw mbw tbw w0 mw0 tw0 w1 mw1 tw1 w2 mw2 tw2 w3 mw3 tw3 qm mqm tqm bg mbg tbg bk mbk tbk bc mbc tbc bx mbx tbx bi mbi tbi bf mbf tbf ba mba tba hbw hba hbg hbk hbc hbx hbi hbf hw0 hw1 hw2 hw3 hLG i_1 (by omega) (by omega) (by omega) _ _ _ _ hB g_5 _ hS _ hl tail
      · skip
        have c_11x : x_9 = 5 := i_is (by decide) c_11j
        subst c_11x
        refine lv_tableIn (tgt := 327) hx hb dL_law_33 (by decide) (by decide) rfl (by decide) ?_
        exact law_c5 l hLs hx hb hr hml hown hts hX hbl hlocks D cA hK hN adK adV L T r hLA hG hV qx mqx tqx bw mbw tbw w0 mw0 tw0 w1 mw1 tw1 w2 mw2 tw2 w3 mw3 tw3 qm mqm tqm bg mbg tbg bk mbk tbk bc mbc tbc bx mbx tbx bi mbi tbi bf mbf tbf ba mba tba hbw hba hbg hbk hbc hbx hbi hbf hw0 hw1 hw2 hw3 hLG i_1 (by omega) (by omega) (by omega) _ _ _ _ hB g_5 _ hS _ hl tail
      · skip
        have c_11x : x_9 = 6 := i_is (by decide) c_11j
        subst c_11x
        refine lv_tableIn (tgt := 360) hx hb dL_law_33 (by decide) (by decide) rfl (by decide) ?_
        exact law_c6 l hLs hx hb hr hml hown hts hX hbl hlocks D cA hK hN adK adV L T r hLA hG hV qx mqx tqx bw mbw tbw w0 mw0 tw0 w1 mw1 tw1 w2 mw2 tw2 w3 mw3 tw3 qm mqm tqm bg mbg tbg bk mbk tbk bc mbc tbc bx mbx tbx bi mbi tbi bf mbf tbf ba mba tba hbw hba hbg hbk hbc hbx hbi hbf hw0 hw1 hw2 hw3 hLG i_1 (by omega) (by omega) (by omega) _ _ _ _ hB g_5 _ hS _ hl tail
      · skip
        have c_11x : x_9 = 7 := i_is (by decide) c_11j
        subst c_11x
        refine lv_tableIn (tgt := 393) hx hb dL_law_33 (by decide) (by decide) rfl (by decide) ?_
        exact law_c7 l hLs hx hb hr hml hown hts hX hbl hlocks D cA hK hN adK adV L T r hLA hG hV qx mqx tqx bw mbw tbw w0 mw0 tw0 w1 mw1 tw1 w2 mw2 tw2 w3 mw3 tw3 qm mqm tqm bg mbg tbg bk mbk tbk bc mbc tbc bx mbx tbx bi mbi tbi bf mbf tbf ba mba tba hbw hba hbg hbk hbc hbx hbi hbf hw0 hw1 hw2 hw3 hLG i_1 (by omega) (by omega) (by omega) _ _ _ _ hB g_5 _ hS _ hl tail
      · skip
        have c_11x : x_9 = 8 := i_is (by decide) c_11j
        subst c_11x
        refine lv_tableIn (tgt := 426) hx hb dL_law_33 (by decide) (by decide) rfl (by decide) ?_
        exact law_c8 l hLs hx hb hr hml hown hts hX hbl hlocks D cA hK hN adK adV L T r hLA hG hV qx mqx tqx bw mbw tbw w0 mw0 tw0 w1 mw1 tw1 w2 mw2 tw2 w3 mw3 tw3 qm mqm tqm bg mbg tbg bk mbk tbk bc mbc tbc bx mbx tbx bi mbi tbi bf mbf tbf ba mba tba hbw hba hbg hbk hbc hbx hbi hbf hw0 hw1 hw2 hw3 hLG i_1 (by omega) (by omega) (by omega) _ _ _ _ hB g_5 _ hS _ hl tail
      · skip
        have c_11x : x_9 = 9 := i_is (by decide) c_11j
        subst c_11x
        refine lv_tableIn (tgt := 439) hx hb dL_law_33 (by decide) (by decide) rfl (by decide) ?_
        exact law_c9 l hLs hx hb hr hml hown hts hX hbl hlocks D cA hK hN adK adV L T r hLA hG hV qx mqx tqx bw mbw tbw w0 mw0 tw0 w1 mw1 tw1 w2 mw2 tw2 w3 mw3 tw3 qm mqm tqm bg mbg tbg bk mbk tbk bc mbc tbc bx mbx tbx bi mbi tbi bf mbf tbf ba mba tba hbw hba hbg hbk hbc hbx hbi hbf hw0 hw1 hw2 hw3 hLG i_1 (by omega) (by omega) (by omega) _ _ _ _ hB g_5 _ hS _ hl tail
      · skip
        have c_11x : x_9 = 10 := i_is (by decide) c_11j
        subst c_11x
        refine lv_tableIn (tgt := 462) hx hb dL_law_33 (by decide) (by decide) rfl (by decide) ?_
        exact law_c10 l hLs hx hb hr hml hown hts hX hbl hlocks D cA hK hN adK adV L T r hLA hG hV qx mqx tqx bw mbw tbw w0 mw0 tw0 w1 mw1 tw1 w2 mw2 tw2 w3 mw3 tw3 qm mqm tqm bg mbg tbg bk mbk tbk bc mbc tbc bx mbx tbx bi mbi tbi bf mbf tbf ba mba tba hbw hba hbg hbk hbc hbx hbi hbf hw0 hw1 hw2 hw3 hLG i_1 (by omega) (by omega) (by omega) _ _ _ _ hB g_5 _ hS _ hl tail
      · skip
        have c_11x : x_9 = 11 := i_is (by decide) c_11j
        subst c_11x
        refine lv_tableIn (tgt := 485) hx hb dL_law_33 (by decide) (by decide) rfl (by decide) ?_
        exact law_c11 l hLs hx hb hr hml hown hts hX hbl hlocks D cA hK hN adK adV L T r hLA hG hV qx mqx tqx bw mbw tbw w0 mw0 tw0 w1 mw1 tw1 w2 mw2 tw2 w3 mw3 tw3 qm mqm tqm bg mbg tbg bk mbk tbk bc mbc tbc bx mbx tbx bi mbi tbi bf mbf tbf ba mba tba hbw hba hbg hbk hbc hbx hbi hbf hw0 hw1 hw2 hw3 hLG i_1 (by omega) (by omega) (by omega) _ _ _ _ hB g_5 _ hS _ hl tail
      · skip
        have c_11x : x_9 = 12 := i_is (by decide) c_11j
        subst c_11x
        refine lv_tableIn (tgt := 518) hx hb dL_law_33 (by decide) (by decide) rfl (by decide) ?_
        exact law_c12 l hLs hx hb hr hml hown hts hX hbl hlocks D cA hK hN adK adV L T r hLA hG hV qx mqx tqx bw mbw tbw w0 mw0 tw0 w1 mw1 tw1 w2 mw2 tw2 w3 mw3 tw3 qm mqm tqm bg mbg tbg bk mbk tbk bc mbc tbc bx mbx tbx bi mbi tbi bf mbf tbf ba mba tba hbw hba hbg hbk hbc hbx hbi hbf hw0 hw1 hw2 hw3 hLG i_1 (by omega) (by omega) (by omega) _ _ _ _ hB g_5 _ hS _ hl tail
      · skip
        have c_11x : x_9 = 13 := i_is (by decide) c_11j
        subst c_11x
        refine lv_tableIn (tgt := 551) hx hb dL_law_33 (by decide) (by decide) rfl (by decide) ?_
        exact law_c13 l hLs hx hb hr hml hown hts hX hbl hlocks D cA hK hN adK adV L T r hLA hG hV qx mqx tqx bw mbw tbw w0 mw0 tw0 w1 mw1 tw1 w2 mw2 tw2 w3 mw3 tw3 qm mqm tqm bg mbg tbg bk mbk tbk bc mbc tbc bx mbx tbx bi mbi tbi bf mbf tbf ba mba tba hbw hba hbg hbk hbc hbx hbi hbf hw0 hw1 hw2 hw3 hLG i_1 (by omega) (by omega) (by omega) _ _ _ _ hB g_5 _ hS _ hl tail
      · skip
        have c_11x : x_9 = 14 := i_is (by decide) c_11j
        subst c_11x
        refine lv_tableIn (tgt := 584) hx hb dL_law_33 (by decide) (by decide) rfl (by decide) ?_
        exact law_c14 l hLs hx hb hr hml hown hts hX hbl hlocks D cA hK hN adK adV L T r hLA hG hV qx mqx tqx bw mbw tbw w0 mw0 tw0 w1 mw1 tw1 w2 mw2 tw2 w3 mw3 tw3 qm mqm tqm bg mbg tbg bk mbk tbk bc mbc tbc bx mbx tbx bi mbi tbi bf mbf tbf ba mba tba hbw hba hbg hbk hbc hbx hbi hbf hw0 hw1 hw2 hw3 hLG i_1 (by omega) (by omega) (by omega) _ _ _ _ hB g_5 _ hS _ hl tail
      · skip
        have c_11x : x_9 = 15 := i_is (by decide) c_11j
        subst c_11x
        refine lv_tableIn (tgt := 627) hx hb dL_law_33 (by decide) (by decide) rfl (by decide) ?_
        exact law_c15 l hLs hx hb hr hml hown hts hX hbl hlocks D cA hK hN adK adV L T r hLA hG hV qx mqx tqx bw mbw tbw w0 mw0 tw0 w1 mw1 tw1 w2 mw2 tw2 w3 mw3 tw3 qm mqm tqm bg mbg tbg bk mbk tbk bc mbc tbc bx mbx tbx bi mbi tbi bf mbf tbf ba mba tba hbw hba hbg hbk hbc hbx hbi hbf hw0 hw1 hw2 hw3 hLG i_1 (by omega) (by omega) (by omega) _ _ _ _ hB g_5 _ hS _ hl tail
      · skip
        have c_11x : x_9 = 16 := i_is (by decide) c_11j
        subst c_11x
        refine lv_tableIn (tgt := 640) hx hb dL_law_33 (by decide) (by decide) rfl (by decide) ?_
        exact law_c16 l hLs hx hb hr hml hown hts hX hbl hlocks D cA hK hN adK adV L T r hLA hG hV qx mqx tqx bw mbw tbw w0 mw0 tw0 w1 mw1 tw1 w2 mw2 tw2 w3 mw3 tw3 qm mqm tqm bg mbg tbg bk mbk tbk bc mbc tbc bx mbx tbx bi mbi tbi bf mbf tbf ba mba tba hbw hba hbg hbk hbc hbx hbi hbf hw0 hw1 hw2 hw3 hLG i_1 (by omega) (by omega) (by omega) _ _ _ _ hB g_5 _ hS _ hl tail
      · skip
        have c_11x : x_9 = 17 := i_is (by decide) c_11j
        subst c_11x
        refine lv_tableIn (tgt := 673) hx hb dL_law_33 (by decide) (by decide) rfl (by decide) ?_
        exact law_c17 l hLs hx hb hr hml hown hts hX hbl hlocks D cA hK hN adK adV L T r hLA hG hV qx mqx tqx bw mbw tbw w0 mw0 tw0 w1 mw1 tw1 w2 mw2 tw2 w3 mw3 tw3 qm mqm tqm bg mbg tbg bk mbk tbk bc mbc tbc bx mbx tbx bi mbi tbi bf mbf tbf ba mba tba hbw hba hbg hbk hbc hbx hbi hbf hw0 hw1 hw2 hw3 hLG i_1 (by omega) (by omega) (by omega) _ _ _ _ hB g_5 _ hS _ hl tail
      · skip
        have c_11x : x_9 = 18 := i_is (by decide) c_11j
        subst c_11x
        refine lv_tableIn (tgt := 706) hx hb dL_law_33 (by decide) (by decide) rfl (by decide) ?_
        exact law_c18 l hLs hx hb hr hml hown hts hX hbl hlocks D cA hK hN adK adV L T r hLA hG hV qx mqx tqx bw mbw tbw w0 mw0 tw0 w1 mw1 tw1 w2 mw2 tw2 w3 mw3 tw3 qm mqm tqm bg mbg tbg bk mbk tbk bc mbc tbc bx mbx tbx bi mbi tbi bf mbf tbf ba mba tba hbw hba hbg hbk hbc hbx hbi hbf hw0 hw1 hw2 hw3 hLG i_1 (by omega) (by omega) (by omega) _ _ _ _ hB g_5 _ hS _ hl tail
      · skip
        have c_11x : x_9 = 19 := i_is (by decide) c_11j
        subst c_11x
        refine lv_tableIn (tgt := 729) hx hb dL_law_33 (by decide) (by decide) rfl (by decide) ?_
        exact law_c19 l hLs hx hb hr hml hown hts hX hbl hlocks D cA hK hN adK adV L T r hLA hG hV qx mqx tqx bw mbw tbw w0 mw0 tw0 w1 mw1 tw1 w2 mw2 tw2 w3 mw3 tw3 qm mqm tqm bg mbg tbg bk mbk tbk bc mbc tbc bx mbx tbx bi mbi tbi bf mbf tbf ba mba tba hbw hba hbg hbk hbc hbx hbi hbf hw0 hw1 hw2 hw3 hLG i_1 (by omega) (by omega) (by omega) _ _ _ _ hB g_5 _ hS _ hl tail
      · skip
        have c_11x : x_9 = 20 := i_is (by decide) c_11j
        subst c_11x
        refine lv_tableIn (tgt := 762) hx hb dL_law_33 (by decide) (by decide) rfl (by decide) ?_
        exact law_c20 l hLs hx hb hr hml hown hts hX hbl hlocks D cA hK hN adK adV L T r hLA hG hV qx mqx tqx bw mbw tbw w0 mw0 tw0 w1 mw1 tw1 w2 mw2 tw2 w3 mw3 tw3 qm mqm tqm bg mbg tbg bk mbk tbk bc mbc tbc bx mbx tbx bi mbi tbi bf mbf tbf ba mba tba hbw hba hbg hbk hbc hbx hbi hbf hw0 hw1 hw2 hw3 hLG i_1 (by omega) (by omega) (by omega) _ _ _ _ hB g_5 _ hS _ hl tail
      · skip
        have c_11x : x_9 = 21 := i_is (by decide) c_11j
        subst c_11x
        refine lv_tableIn (tgt := 795) hx hb dL_law_33 (by decide) (by decide) rfl (by decide) ?_
        exact law_c21 l hLs hx hb hr hml hown hts hX hbl hlocks D cA hK hN adK adV L T r hLA hG hV qx mqx tqx bw mbw tbw w0 mw0 tw0 w1 mw1 tw1 w2 mw2 tw2 w3 mw3 tw3 qm mqm tqm bg mbg tbg bk mbk tbk bc mbc tbc bx mbx tbx bi mbi tbi bf mbf tbf ba mba tba hbw hba hbg hbk hbc hbx hbi hbf hw0 hw1 hw2 hw3 hLG i_1 (by omega) (by omega) (by omega) _ _ _ _ hB g_5 _ hS _ hl tail
      · skip
        have c_11x : x_9 = 22 := i_is (by decide) c_11j
        subst c_11x
        refine lv_tableIn (tgt := 828) hx hb dL_law_33 (by decide) (by decide) rfl (by decide) ?_
        exact law_c22 l hLs hx hb hr hml hown hts hX hbl hlocks D cA hK hN adK adV L T r hLA hG hV qx mqx tqx bw mbw tbw w0 mw0 tw0 w1 mw1 tw1 w2 mw2 tw2 w3 mw3 tw3 qm mqm tqm bg mbg tbg bk mbk tbk bc mbc tbc bx mbx tbx bi mbi tbi bf mbf tbf ba mba tba hbw hba hbg hbk hbc hbx hbi hbf hw0 hw1 hw2 hw3 hLG i_1 (by omega) (by omega) (by omega) _ _ _ _ hB g_5 _ hS _ hl tail
      · skip
        have c_11x : x_9 = 23 := i_is (by decide) c_11j
        subst c_11x
        refine lv_tableIn (tgt := 861) hx hb dL_law_33 (by decide) (by decide) rfl (by decide) ?_
        exact law_c23 l hLs hx hb hr hml hown hts hX hbl hlocks D cA hK hN adK adV L T r hLA hG hV qx mqx tqx bw mbw tbw w0 mw0 tw0 w1 mw1 tw1 w2 mw2 tw2 w3 mw3 tw3 qm mqm tqm bg mbg tbg bk mbk tbk bc mbc tbc bx mbx tbx bi mbi tbi bf mbf tbf ba mba tba hbw hba hbg hbk hbc hbx hbi hbf hw0 hw1 hw2 hw3 hLG i_1 (by omega) (by omega) (by omega) _ _ _ _ hB g_5 _ hS _ hl tail
      · skip
        have c_11x : x_9 = 24 := i_is (by decide) c_11j
        subst c_11x
        refine lv_tableIn (tgt := 894) hx hb dL_law_33 (by decide) (by decide) rfl (by decide) ?_
        exact law_c24 l hLs hx hb hr hml hown hts hX hbl hlocks D cA hK hN adK adV L T r hLA hG hV qx mqx tqx bw mbw tbw w0 mw0 tw0 w1 mw1 tw1 w2 mw2 tw2 w3 mw3 tw3 qm mqm tqm bg mbg tbg bk mbk tbk bc mbc tbc bx mbx tbx bi mbi tbi bf mbf tbf ba mba tba hbw hba hbg hbk hbc hbx hbi hbf hw0 hw1 hw2 hw3 hLG i_1 (by omega) (by omega) (by omega) _ _ _ _ hB g_5 _ hS _ hl tail
      · skip
        have c_11x : x_9 = 25 := i_is (by decide) c_11j
        subst c_11x
        refine lv_tableIn (tgt := 927) hx hb dL_law_33 (by decide) (by decide) rfl (by decide) ?_
        exact law_c25 l hLs hx hb hr hml hown hts hX hbl hlocks D cA hK hN adK adV L T r hLA hG hV qx mqx tqx bw mbw tbw w0 mw0 tw0 w1 mw1 tw1 w2 mw2 tw2 w3 mw3 tw3 qm mqm tqm bg mbg tbg bk mbk tbk bc mbc tbc bx mbx tbx bi mbi tbi bf mbf tbf ba mba tba hbw hba hbg hbk hbc hbx hbi hbf hw0 hw1 hw2 hw3 hLG i_1 (by omega) (by omega) (by omega) _ _ _ _ hB g_5 _ hS _ hl tail
      · skip
        have c_11x : x_9 = 26 := i_is (by decide) c_11j
        subst c_11x
        refine lv_tableIn (tgt := 950) hx hb dL_law_33 (by decide) (by decide) rfl (by decide) ?_
        exact law_c26 l hLs hx hb hr hml hown hts hX hbl hlocks D cA hK hN adK adV L T r hLA hG hV qx mqx tqx bw mbw tbw w0 mw0 tw0 w1 mw1 tw1 w2 mw2 tw2 w3 mw3 tw3 qm mqm tqm bg mbg tbg bk mbk tbk bc mbc tbc bx mbx tbx bi mbi tbi bf mbf tbf ba mba tba hbw hba hbg hbk hbc hbx hbi hbf hw0 hw1 hw2 hw3 hLG i_1 (by omega) (by omega) (by omega) _ _ _ _ hB g_5 _ hS _ hl tail
      · skip
        have c_11x : x_9 = 27 := i_is (by decide) c_11j
        subst c_11x
        refine lv_tableIn (tgt := 983) hx hb dL_law_33 (by decide) (by decide) rfl (by decide) ?_
        exact law_c27 l hLs hx hb hr hml hown hts hX hbl hlocks D cA hK hN adK adV L T r hLA hG hV qx mqx tqx bw mbw tbw w0 mw0 tw0 w1 mw1 tw1 w2 mw2 tw2 w3 mw3 tw3 qm mqm tqm bg mbg tbg bk mbk tbk bc mbc tbc bx mbx tbx bi mbi tbi bf mbf tbf ba mba tba hbw hba hbg hbk hbc hbx hbi hbf hw0 hw1 hw2 hw3 hLG i_1 (by omega) (by omega) (by omega) _ _ _ _ hB g_5 _ hS _ hl tail
      · skip
        have c_11x : x_9 = 28 := i_is (by decide) c_11j
        subst c_11x
        refine lv_tableIn (tgt := 1006) hx hb dL_law_33 (by decide) (by decide) rfl (by decide) ?_
        exact law_c28 l hLs hx hb hr hml hown hts hX hbl hlocks D cA hK hN adK adV L T r hLA hG hV qx mqx tqx bw mbw tbw w0 mw0 tw0 w1 mw1 tw1 w2 mw2 tw2 w3 mw3 tw3 qm mqm tqm bg mbg tbg bk mbk tbk bc mbc tbc bx mbx tbx bi mbi tbi bf mbf tbf ba mba tba hbw hba hbg hbk hbc hbx hbi hbf hw0 hw1 hw2 hw3 hLG i_1 (by omega) (by omega) (by omega) _ _ _ _ hB g_5 _ hS _ hl tail
      · skip
        have c_11x : x_9 = 29 := i_is (by decide) c_11j
        subst c_11x
        refine lv_tableIn (tgt := 1049) hx hb dL_law_33 (by decide) (by decide) rfl (by decide) ?_
        exact law_c29 l hLs hx hb hr hml hown hts hX hbl hlocks D cA hK hN adK adV L T r hLA hG hV qx mqx tqx bw mbw tbw w0 mw0 tw0 w1 mw1 tw1 w2 mw2 tw2 w3 mw3 tw3 qm mqm tqm bg mbg tbg bk mbk tbk bc mbc tbc bx mbx tbx bi mbi tbi bf mbf tbf ba mba tba hbw hba hbg hbk hbc hbx hbi hbf hw0 hw1 hw2 hw3 hLG i_1 (by omega) (by omega) (by omega) _ _ _ _ hB g_5 _ hS _ hl tail
      · skip
        have c_11x : x_9 = 30 := i_is (by decide) c_11j
        subst c_11x
        refine lv_tableIn (tgt := 1072) hx hb dL_law_33 (by decide) (by decide) rfl (by decide) ?_
        exact law_c30 l hLs hx hb hr hml hown hts hX hbl hlocks D cA hK hN adK adV L T r hLA hG hV qx mqx tqx bw mbw tbw w0 mw0 tw0 w1 mw1 tw1 w2 mw2 tw2 w3 mw3 tw3 qm mqm tqm bg mbg tbg bk mbk tbk bc mbc tbc bx mbx tbx bi mbi tbi bf mbf tbf ba mba tba hbw hba hbg hbk hbc hbx hbi hbf hw0 hw1 hw2 hw3 hLG i_1 (by omega) (by omega) (by omega) _ _ _ _ hB g_5 _ hS _ hl tail
      · skip
        have c_11x : x_9 = 31 := i_is (by decide) c_11j
        subst c_11x
        refine lv_tableIn (tgt := 1105) hx hb dL_law_33 (by decide) (by decide) rfl (by decide) ?_
        exact law_c31 l hLs hx hb hr hml hown hts hX hbl hlocks D cA hK hN adK adV L T r hLA hG hV qx mqx tqx bw mbw tbw w0 mw0 tw0 w1 mw1 tw1 w2 mw2 tw2 w3 mw3 tw3 qm mqm tqm bg mbg tbg bk mbk tbk bc mbc tbc bx mbx tbx bi mbi tbi bf mbf tbf ba mba tba hbw hba hbg hbk hbc hbx hbi hbf hw0 hw1 hw2 hw3 hLG i_1 (by omega) (by omega) (by omega) _ _ _ _ hB g_5 _ hS _ hl tail
      · skip
        have c_11x : x_9 = 32 := i_is (by decide) c_11j
        subst c_11x
        refine lv_tableIn (tgt := 1128) hx hb dL_law_33 (by decide) (by decide) rfl (by decide) ?_
        exact law_c32 l hLs hx hb hr hml hown hts hX hbl hlocks D cA hK hN adK adV L T r hLA hG hV qx mqx tqx bw mbw tbw w0 mw0 tw0 w1 mw1 tw1 w2 mw2 tw2 w3 mw3 tw3 qm mqm tqm bg mbg tbg bk mbk tbk bc mbc tbc bx mbx tbx bi mbi tbi bf mbf tbf ba mba tba hbw hba hbg hbk hbc hbx hbi hbf hw0 hw1 hw2 hw3 hLG i_1 (by omega) (by omega) (by omega) _ _ _ _ hB g_5 _ hS _ hl tail
      · skip
        have c_11x : x_9 = 33 := i_is (by decide) c_11j
        subst c_11x
        refine lv_tableIn (tgt := 1171) hx hb dL_law_33 (by decide) (by decide) rfl (by decide) ?_
        exact law_c33 l hLs hx hb hr hml hown hts hX hbl hlocks D cA hK hN adK adV L T r hLA hG hV qx mqx tqx bw mbw tbw w0 mw0 tw0 w1 mw1 tw1 w2 mw2 tw2 w3 mw3 tw3 qm mqm tqm bg mbg tbg bk mbk tbk bc mbc tbc bx mbx tbx bi mbi tbi bf mbf tbf ba mba tba hbw hba hbg hbk hbc hbx hbi hbf hw0 hw1 hw2 hw3 hLG i_1 (by omega) (by omega) (by omega) _ _ _ _ hB g_5 _ hS _ hl tail
      · skip
        have c_11x : x_9 = 34 := i_is (by decide) c_11j
        subst c_11x
        refine lv_tableIn (tgt := 1194) hx hb dL_law_33 (by decide) (by decide) rfl (by decide) ?_
        exact law_c34 l hLs hx hb hr hml hown hts hX hbl hlocks D cA hK hN adK adV L T r hLA hG hV qx mqx tqx bw mbw tbw w0 mw0 tw0 w1 mw1 tw1 w2 mw2 tw2 w3 mw3 tw3 qm mqm tqm bg mbg tbg bk mbk tbk bc mbc tbc bx mbx tbx bi mbi tbi bf mbf tbf ba mba tba hbw hba hbg hbk hbc hbx hbi hbf hw0 hw1 hw2 hw3 hLG i_1 (by omega) (by omega) (by omega) _ _ _ _ hB g_5 _ hS _ hl tail
      · skip
        have c_11x : x_9 = 35 := i_is (by decide) c_11j
        subst c_11x
        refine lv_tableIn (tgt := 1217) hx hb dL_law_33 (by decide) (by decide) rfl (by decide) ?_
        exact law_c35 l hLs hx hb hr hml hown hts hX hbl hlocks D cA hK hN adK adV L T r hLA hG hV qx mqx tqx bw mbw tbw w0 mw0 tw0 w1 mw1 tw1 w2 mw2 tw2 w3 mw3 tw3 qm mqm tqm bg mbg tbg bk mbk tbk bc mbc tbc bx mbx tbx bi mbi tbi bf mbf tbf ba mba tba hbw hba hbg hbk hbc hbx hbi hbf hw0 hw1 hw2 hw3 hLG i_1 (by omega) (by omega) (by omega) _ _ _ _ hB g_5 _ hS _ hl tail
