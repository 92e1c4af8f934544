theorem dX12_hasNextRow_0 : decode cX12_hasNextRow 0 = .ok (.aload_n 0, 1) := by decide +kernel
theorem dX12_hasNextRow_1 : decode cX12_hasNextRow 1 = .ok (.getfield 39, 3) := by decide +kernel
theorem dX12_hasNextRow_4 : decode cX12_hasNextRow 4 = .ok (.iconst 1, 1) := by decide +kernel
theorem dX12_hasNextRow_5 : decode cX12_hasNextRow 5 = .ok (.iaload, 1) := by decide +kernel
theorem dX12_hasNextRow_6 : decode cX12_hasNextRow 6 = .ok (.iconst 1, 1) := by decide +kernel
theorem dX12_hasNextRow_7 : decode cX12_hasNextRow 7 = .ok (.isub, 1) := by decide +kernel
theorem dX12_hasNextRow_8 : decode cX12_hasNextRow 8 = .ok (.istore_n 1, 1) := by decide +kernel
theorem dX12_hasNextRow_9 : decode cX12_hasNextRow 9 = .ok (.iload_n 1, 1) := by decide +kernel
theorem dX12_hasNextRow_10 : decode cX12_hasNextRow 10 = .ok (.ifCond .lt 24, 3) := by decide +kernel
theorem dX12_hasNextRow_34 : decode cX12_hasNextRow 34 = .ok (.iload_n 1, 1) := by decide +kernel
theorem dX12_hasNextRow_35 : decode cX12_hasNextRow 35 = .ok (.ifCond .ge 5, 3) := by decide +kernel
theorem dX12_hasNextRow_38 : decode cX12_hasNextRow 38 = .ok (.iconst 0, 1) := by decide +kernel
theorem dX12_hasNextRow_39 : decode cX12_hasNextRow 39 = .ok (.ireturn, 1) := by decide +kernel
theorem dX12_hasNextRow_13 : decode cX12_hasNextRow 13 = .ok (.aload_n 0, 1) := by decide +kernel
theorem dX12_hasNextRow_14 : decode cX12_hasNextRow 14 = .ok (.getfield 58, 3) := by decide +kernel
theorem dX12_hasNextRow_17 : decode cX12_hasNextRow 17 = .ok (.iload_n 1, 1) := by decide +kernel
theorem dX12_hasNextRow_18 : decode cX12_hasNextRow 18 = .ok (.iaload, 1) := by decide +kernel
theorem dX12_hasNextRow_19 : decode cX12_hasNextRow 19 = .ok (.aload_n 0, 1) := by decide +kernel
theorem dX12_hasNextRow_20 : decode cX12_hasNextRow 20 = .ok (.getfield 52, 3) := by decide +kernel
theorem dX12_hasNextRow_23 : decode cX12_hasNextRow 23 = .ok (.iload_n 1, 1) := by decide +kernel
theorem dX12_hasNextRow_24 : decode cX12_hasNextRow 24 = .ok (.iaload, 1) := by decide +kernel
theorem dX12_hasNextRow_25 : decode cX12_hasNextRow 25 = .ok (.if_icmp .ne 9, 3) := by decide +kernel
theorem dX12_hasNextRow_40 : decode cX12_hasNextRow 40 = .ok (.aload_n 0, 1) := by decide +kernel
theorem dX12_hasNextRow_41 : decode cX12_hasNextRow 41 = .ok (.getfield 58, 3) := by decide +kernel
theorem dX12_hasNextRow_44 : decode cX12_hasNextRow 44 = .ok (.iload_n 1, 1) := by decide +kernel
theorem dX12_hasNextRow_45 : decode cX12_hasNextRow 45 = .ok (.dup2, 1) := by decide +kernel
theorem dX12_hasNextRow_46 : decode cX12_hasNextRow 46 = .ok (.iaload, 1) := by decide +kernel
theorem dX12_hasNextRow_47 : decode cX12_hasNextRow 47 = .ok (.iconst 1, 1) := by decide +kernel
theorem dX12_hasNextRow_48 : decode cX12_hasNextRow 48 = .ok (.iadd, 1) := by decide +kernel
theorem dX12_hasNextRow_49 : decode cX12_hasNextRow 49 = .ok (.iastore, 1) := by decide +kernel
theorem dX12_hasNextRow_50 : decode cX12_hasNextRow 50 = .ok (.iload_n 1, 1) := by decide +kernel
theorem dX12_hasNextRow_51 : decode cX12_hasNextRow 51 = .ok (.iconst 1, 1) := by decide +kernel
theorem dX12_hasNextRow_52 : decode cX12_hasNextRow 52 = .ok (.iadd, 1) := by decide +kernel
theorem dX12_hasNextRow_53 : decode cX12_hasNextRow 53 = .ok (.istore_n 2, 1) := by decide +kernel
theorem dX12_hasNextRow_54 : decode cX12_hasNextRow 54 = .ok (.iload_n 2, 1) := by decide +kernel
theorem dX12_hasNextRow_55 : decode cX12_hasNextRow 55 = .ok (.aload_n 0, 1) := by decide +kernel
theorem dX12_hasNextRow_56 : decode cX12_hasNextRow 56 = .ok (.getfield 39, 3) := by decide +kernel
theorem dX12_hasNextRow_59 : decode cX12_hasNextRow 59 = .ok (.iconst 1, 1) := by decide +kernel
theorem dX12_hasNextRow_60 : decode cX12_hasNextRow 60 = .ok (.iaload, 1) := by decide +kernel
theorem dX12_hasNextRow_61 : decode cX12_hasNextRow 61 = .ok (.if_icmp .ge 16, 3) := by decide +kernel
theorem dX12_hasNextRow_77 : decode cX12_hasNextRow 77 = .ok (.iconst 1, 1) := by decide +kernel
theorem dX12_hasNextRow_78 : decode cX12_hasNextRow 78 = .ok (.ireturn, 1) := by decide +kernel
theorem dX12_hasNextRow_28 : decode cX12_hasNextRow 28 = .ok (.iinc 1 (-1), 3) := by decide +kernel
theorem dX12_hasNextRow_31 : decode cX12_hasNextRow 31 = .ok (.goto (-22), 3) := by decide +kernel
theorem dX12_hasNextRow_64 : decode cX12_hasNextRow 64 = .ok (.aload_n 0, 1) := by decide +kernel
theorem dX12_hasNextRow_65 : decode cX12_hasNextRow 65 = .ok (.getfield 58, 3) := by decide +kernel
theorem dX12_hasNextRow_68 : decode cX12_hasNextRow 68 = .ok (.iload_n 2, 1) := by decide +kernel
theorem dX12_hasNextRow_69 : decode cX12_hasNextRow 69 = .ok (.iconst 0, 1) := by decide +kernel
theorem dX12_hasNextRow_70 : decode cX12_hasNextRow 70 = .ok (.iastore, 1) := by decide +kernel
theorem dX12_hasNextRow_71 : decode cX12_hasNextRow 71 = .ok (.iinc 2 1, 3) := by decide +kernel
theorem dX12_hasNextRow_74 : decode cX12_hasNextRow 74 = .ok (.goto (-20), 3) := by decide +kernel
set_option maxHeartbeats 4000000 in
set_option maxRecDepth 100000 in
theorem cz_X12_hasNextRow (l : Launch) (D : va_G) (cA : Nat → ClassId) (L : List Nat) (T : Nat → Nat) (r : Rg) (hG : GR L T r) (hL : L.Nodup) (σ : Sg) (ρ : Lg) (hW : WT L ry T σ) (sz : Nat) (h0 : Nat) (mh0 : h0 ∈ L) (th0 : T h0 = 12) (br : Nat) (hbr : r h0 28 = some br) (mbr : br ∈ L) (tbr : T br = 75) (bm : Nat) (hbm : r h0 26 = some bm) (mbm : bm ∈ L) (tbm : T bm = 73) (w0 : (σ br 0).toInt ≤ (σ bm 0).toInt ∧ (σ bm 0).toInt ≤ 9) (w1 : (σ br 1).toInt ≤ (σ bm 1).toInt ∧ (σ bm 1).toInt ≤ 9) (w2 : (σ br 2).toInt ≤ (σ bm 2).toInt ∧ (σ bm 2).toInt ≤ 9) (w3 : (σ br 3).toInt ≤ (σ bm 3).toInt ∧ (σ bm 3).toInt ≤ 9) (w4 : (σ br 4).toInt ≤ (σ bm 4).toInt ∧ (σ bm 4).toInt ≤ 9) : Met l yX12_hasNextRow (.code yX12_hasNextRow cX12_hasNextRow 3 (some .boolean) :: wsA) ({ frames := 0, cells := 0, slots := 0, locals := 0 }) (PR D cA L T r σ ρ sz [.ref h0]) (QI D cA L T r ry [(75, 1000)] σ sz (fun x σ1 => (0 ≤ x.toInt ∧ x.toInt ≤ 1) ∧ ((σ br 0).toInt * 10000 + (σ br 1).toInt * 1000 + (σ br 2).toInt * 100 + (σ br 3).toInt * 10 + (σ br 4).toInt * 1 ≤ (σ1 br 0).toInt * 10000 + (σ1 br 1).toInt * 1000 + (σ1 br 2).toInt * 100 + (σ1 br 3).toInt * 10 + (σ1 br 4).toInt * 1) ∧ (x.toInt = 1 → (σ br 0).toInt * 10000 + (σ br 1).toInt * 1000 + (σ br 2).toInt * 100 + (σ br 3).toInt * 10 + (σ br 4).toInt * 1 < (σ1 br 0).toInt * 10000 + (σ1 br 1).toInt * 1000 + (σ1 br 2).toInt * 100 + (σ1 br 3).toInt * 10 + (σ1 br 4).toInt * 1) ∧ ((σ1 br 0).toInt ≤ (σ bm 0).toInt) ∧ ((σ1 br 1).toInt ≤ (σ bm 1).toInt) ∧ ((σ1 br 2).toInt ≤ (σ bm 2).toInt) ∧ ((σ1 br 3).toInt ≤ (σ bm 3).toInt) ∧ ((σ1 br 4).toInt ≤ (σ bm 4).toInt))) 0 0 (dm L sz) := by
  refine Met.ofW (cc := cX12_hasNextRow) (maxL := 3) (ret := (some .boolean)) (by decide) rfl ?_
  intro p e s m args below meth c s₁ B hml hv
  obtain ⟨rfl, hsz, hP, hK, hN⟩ := hv
  have hx := B.exec
  have hb := B.bytes
  have hr := B.returns
  have hts : ∀ w ∈ wsA, w.before _ s = true := fun w h => atoms_spec (ws := .code yX12_hasNextRow cX12_hasNextRow 3 (some .boolean) :: wsA) B.pre w (List.mem_cons_of_mem _ h)
  have hown : s.vm.findClass RX12 = some m.cls := findClass_of_methodNamed B.named
  subst hsz
  have hLA : LA (dm L s.heap.size) L := ⟨hL, fun a h => Or.inl h⟩
  have hA : ∀ q : Nat, s.heap.size ≤ q → dm L s.heap.size q := fun q h => Or.inr h
  have hS : va_S (dm L s.heap.size) s.heap s.heap [] := va_S.rf
  have hB : TS D cA L T r ry [(75, 1000)] σ σ ρ s.heap := ⟨hP, hW, FR.rf⟩
  have hl := lv_entry ([.ref h0]) (n := 3) (Nat.le_of_ble_eq_true rfl)
  rw [lg_entry_eq]
  generalize (lg_sl ([.ref h0]) ++ List.replicate (3 - (lg_sl ([.ref h0])).length) Slot.unset).toArray = ls at hl ⊢
  have hl : lv_has ls 3 [(0, .ref h0)] := hl
  have w_1 : 0 ≤ (σ br 0).toInt ∧ (σ br 0).toInt ≤ 9 := by have z := hB.2.1 br mbr 0; rw [tbr] at z; exact z
  have w_2 : (-2147483648) ≤ (σ bm 0).toInt ∧ (σ bm 0).toInt ≤ 2147483647 := by have z := hB.2.1 bm mbm 0; rw [tbm] at z; exact z
  have w_3 : 0 ≤ (σ br 1).toInt ∧ (σ br 1).toInt ≤ 9 := by have z := hB.2.1 br mbr 1; rw [tbr] at z; exact z
  have w_4 : (-2147483648) ≤ (σ bm 1).toInt ∧ (σ bm 1).toInt ≤ 2147483647 := by have z := hB.2.1 bm mbm 1; rw [tbm] at z; exact z
  have w_5 : 0 ≤ (σ br 2).toInt ∧ (σ br 2).toInt ≤ 9 := by have z := hB.2.1 br mbr 2; rw [tbr] at z; exact z
  have w_6 : (-2147483648) ≤ (σ bm 2).toInt ∧ (σ bm 2).toInt ≤ 2147483647 := by have z := hB.2.1 bm mbm 2; rw [tbm] at z; exact z
  have w_7 : 0 ≤ (σ br 3).toInt ∧ (σ br 3).toInt ≤ 9 := by have z := hB.2.1 br mbr 3; rw [tbr] at z; exact z
  have w_8 : (-2147483648) ≤ (σ bm 3).toInt ∧ (σ bm 3).toInt ≤ 2147483647 := by have z := hB.2.1 bm mbm 3; rw [tbm] at z; exact z
  have w_9 : 0 ≤ (σ br 4).toInt ∧ (σ br 4).toInt ≤ 9 := by have z := hB.2.1 br mbr 4; rw [tbr] at z; exact z
  have w_10 : (-2147483648) ≤ (σ bm 4).toInt ∧ (σ bm 4).toInt ≤ 2147483647 := by have z := hB.2.1 bm mbm 4; rw [tbm] at z; exact z
  refine lv_aload_n hx hb dX12_hasNextRow_0 rfl (lv_at hl 0 rfl) ?_
  refine t_gr hx hb hts hown hK hG hB mh0 th0 fq_12_20 rfl mw_5_236 dX12_hasNextRow_1 (fun b_11 hb_11 mb_11 tb_11 => ?_)
  refine lv_iconst (v := 1) hx hb dX12_hasNextRow_4 (by decide) ?_
  refine t_aj hx hb hK hB mb_11 tb_11 ai_70 (i_in (by decide) (by decide)) dX12_hasNextRow_5 (fun x_12 ex_12 lx_12 ux_12 => ?_)
  have lx_12 : 0 ≤ x_12.toInt := lx_12
  have ux_12 : x_12.toInt ≤ 5 := ux_12
  have cx_12 := congrArg Int32.toInt ex_12
  rcases (show x_12.toInt = 0 ∨ x_12.toInt = 1 ∨ x_12.toInt = 2 ∨ x_12.toInt = 3 ∨ x_12.toInt = 4 ∨ x_12.toInt = 5 by omega) with c_13j | c_13j | c_13j | c_13j | c_13j | c_13j
  · skip
    have c_13x : x_12 = 0 := i_is (by decide) c_13j
    subst c_13x
    refine lv_iconst (v := 1) hx hb dX12_hasNextRow_6 (by decide) ?_
    refine lv_isub hx hb dX12_hasNextRow_7 ?_
    refine tp_i (w := (-1)) (by decide) ?_
    refine lv_istore_n (lv' := [(1, .int (-1)), (0, .ref h0)]) hx hb dX12_hasNextRow_8 rfl hl (by decide) rfl (fun ls hl => ?_)
    refine lv_iload_n hx hb dX12_hasNextRow_9 rfl (lv_at hl 0 rfl) ?_
    refine lv_if_lt (tgt := 34) hx hb dX12_hasNextRow_10 (by decide) (fun _ => ?_) (fun c9 => absurd (by decide) c9)
    refine lv_iload_n hx hb dX12_hasNextRow_34 rfl (lv_at hl 0 rfl) ?_
    refine lv_if_ge (tgt := 40) hx hb dX12_hasNextRow_35 (by decide) (fun c9 => absurd c9 (by decide)) (fun _ => ?_)
    refine lv_iconst (v := 0) hx hb dX12_hasNextRow_38 (by decide) ?_
    exact W.zret (v := 0) hx hb hr rfl (fun t ht hW => ⟨⟨0, (σ, ρ), rfl, ⟨hB.2.1, hB.2.2, ⟨(show 0 ≤ (0 : Int32).toInt ∧ (0 : Int32).toInt ≤ 1 from ⟨by decide, by decide⟩), (show (σ br 0).toInt * 10000 + (σ br 1).toInt * 1000 + (σ br 2).toInt * 100 + (σ br 3).toInt * 10 + (σ br 4).toInt * 1 ≤ (σ br 0).toInt * 10000 + (σ br 1).toInt * 1000 + (σ br 2).toInt * 100 + (σ br 3).toInt * 10 + (σ br 4).toInt * 1 from (by (first | omega | decide | (simp only [show (0 : Int32).toInt = 0 from by decide]; omega)))), (show (0 : Int32).toInt = 1 → (σ br 0).toInt * 10000 + (σ br 1).toInt * 1000 + (σ br 2).toInt * 100 + (σ br 3).toInt * 10 + (σ br 4).toInt * 1 < (σ br 0).toInt * 10000 + (σ br 1).toInt * 1000 + (σ br 2).toInt * 100 + (σ br 3).toInt * 10 + (σ br 4).toInt * 1 from (fun h => absurd h (by decide))), (show (σ br 0).toInt ≤ (σ bm 0).toInt from (by (first | omega | (simp only [show (0 : Int32).toInt = 0 from by decide]; omega)))), (show (σ br 1).toInt ≤ (σ bm 1).toInt from (by (first | omega | (simp only [show (0 : Int32).toInt = 0 from by decide]; omega)))), (show (σ br 2).toInt ≤ (σ bm 2).toInt from (by (first | omega | (simp only [show (0 : Int32).toInt = 0 from by decide]; omega)))), (show (σ br 3).toInt ≤ (σ bm 3).toInt from (by (first | omega | (simp only [show (0 : Int32).toInt = 0 from by decide]; omega)))), (show (σ br 4).toInt ≤ (σ bm 4).toInt from (by (first | omega | (simp only [show (0 : Int32).toInt = 0 from by decide]; omega))))⟩⟩, (show TP D cA L T r σ ρ t.heap from by rw [ht]; exact hB.1)⟩, hS.F ht⟩) hS.2.2 dX12_hasNextRow_39
  · skip
    have c_13x : x_12 = 1 := i_is (by decide) c_13j
    subst c_13x
    refine lv_iconst (v := 1) hx hb dX12_hasNextRow_6 (by decide) ?_
    refine lv_isub hx hb dX12_hasNextRow_7 ?_
    refine tp_i (w := 0) (by decide) ?_
    refine lv_istore_n (lv' := [(1, .int 0), (0, .ref h0)]) hx hb dX12_hasNextRow_8 rfl hl (by decide) rfl (fun ls hl => ?_)
    refine lv_iload_n hx hb dX12_hasNextRow_9 rfl (lv_at hl 0 rfl) ?_
    refine lv_if_lt (tgt := 34) hx hb dX12_hasNextRow_10 (by decide) (fun c9 => absurd c9 (by decide)) (fun _ => ?_)
    refine lv_aload_n hx hb dX12_hasNextRow_13 rfl (lv_at hl 1 rfl) ?_
    refine t_gk hx hb hts hown hK hB mh0 th0 fq_12_28 hbr mw_6_4 dX12_hasNextRow_14 ?_
    refine lv_iload_n hx hb dX12_hasNextRow_17 rfl (lv_at hl 0 rfl) ?_
    refine t_ai hx hb hK hB mbr tbr ai_75 (fun _ => rfl) (i_in (by decide) (by decide)) dX12_hasNextRow_18 (fun x_14 ex_14 lx_14 ux_14 => ?_)
    have qx_14 : x_14 = (σ br 0) := ex_14.trans rfl
    have qx_14 := qx_14.symm
    subst qx_14
    refine lv_aload_n hx hb dX12_hasNextRow_19 rfl (lv_at hl 1 rfl) ?_
    refine t_gk hx hb hts hown hK hB mh0 th0 fq_12_26 hbm mw_6_2 dX12_hasNextRow_20 ?_
    refine lv_iload_n hx hb dX12_hasNextRow_23 rfl (lv_at hl 0 rfl) ?_
    refine t_ai hx hb hK hB mbm tbm ai_73 (fun _ => rfl) (i_in (by decide) (by decide)) dX12_hasNextRow_24 (fun x_15 ex_15 lx_15 ux_15 => ?_)
    have qx_15 : x_15 = (σ bm 0) := ex_15.trans rfl
    have qx_15 := qx_15.symm
    subst qx_15
    refine lv_icmp_ne (tgt := 34) hx hb dX12_hasNextRow_25 (by decide) (fun c_16 => ?_) (fun c_16 => ?_)
    · skip
      have uc_16 := j_ne c_16
      refine lv_iload_n hx hb dX12_hasNextRow_34 rfl (lv_at hl 0 rfl) ?_
      refine lv_if_ge (tgt := 40) hx hb dX12_hasNextRow_35 (by decide) (fun _ => ?_) (fun c9 => absurd (by decide) c9)
      refine lv_aload_n hx hb dX12_hasNextRow_40 rfl (lv_at hl 1 rfl) ?_
      refine t_gk hx hb hts hown hK hB mh0 th0 fq_12_28 hbr mw_6_4 dX12_hasNextRow_41 ?_
      refine lv_iload_n hx hb dX12_hasNextRow_44 rfl (lv_at hl 0 rfl) ?_
      refine lv_dup2_11 hx hb dX12_hasNextRow_45 rfl rfl ?_
      refine t_ai hx hb hK hB mbr tbr ai_75 (fun _ => rfl) (i_in (by decide) (by decide)) dX12_hasNextRow_46 (fun x_17 ex_17 lx_17 ux_17 => ?_)
      have qx_17 : x_17 = (σ br 0) := ex_17.trans rfl
      have qx_17 := qx_17.symm
      subst qx_17
      refine lv_iconst (v := 1) hx hb dX12_hasNextRow_47 (by decide) ?_
      refine lv_iadd hx hb dX12_hasNextRow_48 ?_
      refine lv_topi (fun x_18 ex_18 => ?_)
      have vx_18 := b_add (rfl : (σ br 0).toInt = _) (by decide : (1 : Int32).toInt = 1) ex_18 (by omega) (by omega)
      refine t_si hx hb hK hLA hB hS mbr tbr ai_75 (i_in (by decide) (by decide)) (by show 0 ≤ _; (first | omega | (subst_vars; omega))) (by show _ ≤ 9; (first | omega | (subst_vars; omega))) (Or.inr (by decide)) dX12_hasNextRow_49 (fun H locs σ_19 eσ_19 hB hS => ?_)
      have k_20 : σ_19 br 0 = x_18 := by rw [eσ_19]; exact up2_same _ _ _ _
      refine lv_iload_n hx hb dX12_hasNextRow_50 rfl (lv_at hl 0 rfl) ?_
      refine lv_iconst (v := 1) hx hb dX12_hasNextRow_51 (by decide) ?_
      refine lv_iadd hx hb dX12_hasNextRow_52 ?_
      refine tp_i (w := 1) (by decide) ?_
      refine lv_istore_n (lv' := [(2, .int 1), (1, .int 0), (0, .ref h0)]) hx hb dX12_hasNextRow_53 rfl hl (by decide) rfl (fun ls hl => ?_)
      refine lv_iload_n hx hb dX12_hasNextRow_54 rfl (lv_at hl 0 rfl) ?_
      refine lv_aload_n hx hb dX12_hasNextRow_55 rfl (lv_at hl 2 rfl) ?_
      refine t_gk hx hb hts hown hK hB mh0 th0 fq_12_20 hb_11 mw_5_236 dX12_hasNextRow_56 ?_
      refine lv_iconst (v := 1) hx hb dX12_hasNextRow_59 (by decide) ?_
      have k_21 : σ_19 b_11 1 = 1 := by rw [eσ_19, up2_nej _ _ (by decide)]; exact ex_12.symm
      refine t_aj hx hb hK hB mb_11 tb_11 ai_70 (i_in (by decide) (by decide)) dX12_hasNextRow_60 (fun x_22 ex_22 lx_22 ux_22 => ?_)
      have qx_22 : x_22 = 1 := ex_22.trans k_21
      clear lx_22 ux_22
      subst qx_22
      refine lv_icmp_ge (tgt := 77) hx hb dX12_hasNextRow_61 (by decide) (fun _ => ?_) (fun c9 => absurd (by decide) c9)
      refine lv_iconst (v := 1) hx hb dX12_hasNextRow_77 (by decide) ?_
      have k_23 : σ_19 br 1 = (σ br 1) := by rw [eσ_19, up2_nej _ _ (by decide)]
      have k_24 : σ_19 br 2 = (σ br 2) := by rw [eσ_19, up2_nej _ _ (by decide)]
      have k_25 : σ_19 br 3 = (σ br 3) := by rw [eσ_19, up2_nej _ _ (by decide)]
      have k_26 : σ_19 br 4 = (σ br 4) := by rw [eσ_19, up2_nej _ _ (by decide)]
      exact W.zret (v := 1) hx hb hr rfl (fun t ht hW => ⟨⟨1, (σ_19, ρ), rfl, ⟨hB.2.1, hB.2.2, ⟨(show 0 ≤ (1 : Int32).toInt ∧ (1 : Int32).toInt ≤ 1 from ⟨by decide, by decide⟩), (show (σ br 0).toInt * 10000 + (σ br 1).toInt * 1000 + (σ br 2).toInt * 100 + (σ br 3).toInt * 10 + (σ br 4).toInt * 1 ≤ (σ_19 br 0).toInt * 10000 + (σ_19 br 1).toInt * 1000 + (σ_19 br 2).toInt * 100 + (σ_19 br 3).toInt * 10 + (σ_19 br 4).toInt * 1 from (by rw [k_20, k_23, k_24, k_25, k_26]; (first | omega | decide | (simp only [show (0 : Int32).toInt = 0 from by decide]; omega)))), (show (1 : Int32).toInt = 1 → (σ br 0).toInt * 10000 + (σ br 1).toInt * 1000 + (σ br 2).toInt * 100 + (σ br 3).toInt * 10 + (σ br 4).toInt * 1 < (σ_19 br 0).toInt * 10000 + (σ_19 br 1).toInt * 1000 + (σ_19 br 2).toInt * 100 + (σ_19 br 3).toInt * 10 + (σ_19 br 4).toInt * 1 from (fun h => (by rw [k_20, k_23, k_24, k_25, k_26]; (first | omega | (simp only [show (0 : Int32).toInt = 0 from by decide]; omega))))), (show (σ_19 br 0).toInt ≤ (σ bm 0).toInt from (by rw [k_20]; (first | omega | (simp only [show (0 : Int32).toInt = 0 from by decide]; omega)))), (show (σ_19 br 1).toInt ≤ (σ bm 1).toInt from (by rw [k_23]; (first | omega | (simp only [show (0 : Int32).toInt = 0 from by decide]; omega)))), (show (σ_19 br 2).toInt ≤ (σ bm 2).toInt from (by rw [k_24]; (first | omega | (simp only [show (0 : Int32).toInt = 0 from by decide]; omega)))), (show (σ_19 br 3).toInt ≤ (σ bm 3).toInt from (by rw [k_25]; (first | omega | (simp only [show (0 : Int32).toInt = 0 from by decide]; omega)))), (show (σ_19 br 4).toInt ≤ (σ bm 4).toInt from (by rw [k_26]; (first | omega | (simp only [show (0 : Int32).toInt = 0 from by decide]; omega))))⟩⟩, (show TP D cA L T r σ_19 ρ t.heap from by rw [ht]; exact hB.1)⟩, hS.F ht⟩) hS.2.2 dX12_hasNextRow_78
    · skip
      have uc_16 := j_eq c_16
      refine lv_iinc (v := (-1)) (lv' := [(1, .int (-1)), (0, .ref h0)]) hx hb dX12_hasNextRow_28 hl (k := 0) rfl (by decide) (by decide) rfl (fun ls hl => ?_)
      refine lv_goto (tgt := 9) hx hb dX12_hasNextRow_31 (by decide) ?_
      refine lv_iload_n hx hb dX12_hasNextRow_9 rfl (lv_at hl 0 rfl) ?_
      refine lv_if_lt (tgt := 34) hx hb dX12_hasNextRow_10 (by decide) (fun _ => ?_) (fun c9 => absurd (by decide) c9)
      refine lv_iload_n hx hb dX12_hasNextRow_34 rfl (lv_at hl 0 rfl) ?_
      refine lv_if_ge (tgt := 40) hx hb dX12_hasNextRow_35 (by decide) (fun c9 => absurd c9 (by decide)) (fun _ => ?_)
      refine lv_iconst (v := 0) hx hb dX12_hasNextRow_38 (by decide) ?_
      exact W.zret (v := 0) hx hb hr rfl (fun t ht hW => ⟨⟨0, (σ, ρ), rfl, ⟨hB.2.1, hB.2.2, ⟨(show 0 ≤ (0 : Int32).toInt ∧ (0 : Int32).toInt ≤ 1 from ⟨by decide, by decide⟩), (show (σ br 0).toInt * 10000 + (σ br 1).toInt * 1000 + (σ br 2).toInt * 100 + (σ br 3).toInt * 10 + (σ br 4).toInt * 1 ≤ (σ br 0).toInt * 10000 + (σ br 1).toInt * 1000 + (σ br 2).toInt * 100 + (σ br 3).toInt * 10 + (σ br 4).toInt * 1 from (by (first | omega | decide | (simp only [show (0 : Int32).toInt = 0 from by decide]; omega)))), (show (0 : Int32).toInt = 1 → (σ br 0).toInt * 10000 + (σ br 1).toInt * 1000 + (σ br 2).toInt * 100 + (σ br 3).toInt * 10 + (σ br 4).toInt * 1 < (σ br 0).toInt * 10000 + (σ br 1).toInt * 1000 + (σ br 2).toInt * 100 + (σ br 3).toInt * 10 + (σ br 4).toInt * 1 from (fun h => absurd h (by decide))), (show (σ br 0).toInt ≤ (σ bm 0).toInt from (by (first | omega | (simp only [show (0 : Int32).toInt = 0 from by decide]; omega)))), (show (σ br 1).toInt ≤ (σ bm 1).toInt from (by (first | omega | (simp only [show (0 : Int32).toInt = 0 from by decide]; omega)))), (show (σ br 2).toInt ≤ (σ bm 2).toInt from (by (first | omega | (simp only [show (0 : Int32).toInt = 0 from by decide]; omega)))), (show (σ br 3).toInt ≤ (σ bm 3).toInt from (by (first | omega | (simp only [show (0 : Int32).toInt = 0 from by decide]; omega)))), (show (σ br 4).toInt ≤ (σ bm 4).toInt from (by (first | omega | (simp only [show (0 : Int32).toInt = 0 from by decide]; omega))))⟩⟩, (show TP D cA L T r σ ρ t.heap from by rw [ht]; exact hB.1)⟩, hS.F ht⟩) hS.2.2 dX12_hasNextRow_39
  · skip
    have c_13x : x_12 = 2 := i_is (by decide) c_13j
    subst c_13x
    refine lv_iconst (v := 1) hx hb dX12_hasNextRow_6 (by decide) ?_
    refine lv_isub hx hb dX12_hasNextRow_7 ?_
    refine tp_i (w := 1) (by decide) ?_
    refine lv_istore_n (lv' := [(1, .int 1), (0, .ref h0)]) hx hb dX12_hasNextRow_8 rfl hl (by decide) rfl (fun ls hl => ?_)
    refine lv_iload_n hx hb dX12_hasNextRow_9 rfl (lv_at hl 0 rfl) ?_
    refine lv_if_lt (tgt := 34) hx hb dX12_hasNextRow_10 (by decide) (fun c9 => absurd c9 (by decide)) (fun _ => ?_)
    refine lv_aload_n hx hb dX12_hasNextRow_13 rfl (lv_at hl 1 rfl) ?_
    refine t_gk hx hb hts hown hK hB mh0 th0 fq_12_28 hbr mw_6_4 dX12_hasNextRow_14 ?_
    refine lv_iload_n hx hb dX12_hasNextRow_17 rfl (lv_at hl 0 rfl) ?_
    refine t_ai hx hb hK hB mbr tbr ai_75 (fun _ => rfl) (i_in (by decide) (by decide)) dX12_hasNextRow_18 (fun x_27 ex_27 lx_27 ux_27 => ?_)
    have qx_27 : x_27 = (σ br 1) := ex_27.trans rfl
    have qx_27 := qx_27.symm
    subst qx_27
    refine lv_aload_n hx hb dX12_hasNextRow_19 rfl (lv_at hl 1 rfl) ?_
    refine t_gk hx hb hts hown hK hB mh0 th0 fq_12_26 hbm mw_6_2 dX12_hasNextRow_20 ?_
    refine lv_iload_n hx hb dX12_hasNextRow_23 rfl (lv_at hl 0 rfl) ?_
    refine t_ai hx hb hK hB mbm tbm ai_73 (fun _ => rfl) (i_in (by decide) (by decide)) dX12_hasNextRow_24 (fun x_28 ex_28 lx_28 ux_28 => ?_)
    have qx_28 : x_28 = (σ bm 1) := ex_28.trans rfl
    have qx_28 := qx_28.symm
    subst qx_28
    refine lv_icmp_ne (tgt := 34) hx hb dX12_hasNextRow_25 (by decide) (fun c_29 => ?_) (fun c_29 => ?_)
    · skip
      have uc_29 := j_ne c_29
      refine lv_iload_n hx hb dX12_hasNextRow_34 rfl (lv_at hl 0 rfl) ?_
      refine lv_if_ge (tgt := 40) hx hb dX12_hasNextRow_35 (by decide) (fun _ => ?_) (fun c9 => absurd (by decide) c9)
      refine lv_aload_n hx hb dX12_hasNextRow_40 rfl (lv_at hl 1 rfl) ?_
      refine t_gk hx hb hts hown hK hB mh0 th0 fq_12_28 hbr mw_6_4 dX12_hasNextRow_41 ?_
      refine lv_iload_n hx hb dX12_hasNextRow_44 rfl (lv_at hl 0 rfl) ?_
      refine lv_dup2_11 hx hb dX12_hasNextRow_45 rfl rfl ?_
      refine t_ai hx hb hK hB mbr tbr ai_75 (fun _ => rfl) (i_in (by decide) (by decide)) dX12_hasNextRow_46 (fun x_30 ex_30 lx_30 ux_30 => ?_)
      have qx_30 : x_30 = (σ br 1) := ex_30.trans rfl
      have qx_30 := qx_30.symm
      subst qx_30
      refine lv_iconst (v := 1) hx hb dX12_hasNextRow_47 (by decide) ?_
      refine lv_iadd hx hb dX12_hasNextRow_48 ?_
      refine lv_topi (fun x_31 ex_31 => ?_)
      have vx_31 := b_add (rfl : (σ br 1).toInt = _) (by decide : (1 : Int32).toInt = 1) ex_31 (by omega) (by omega)
      refine t_si hx hb hK hLA hB hS mbr tbr ai_75 (i_in (by decide) (by decide)) (by show 0 ≤ _; (first | omega | (subst_vars; omega))) (by show _ ≤ 9; (first | omega | (subst_vars; omega))) (Or.inr (by decide)) dX12_hasNextRow_49 (fun H locs σ_32 eσ_32 hB hS => ?_)
      have k_33 : σ_32 br 1 = x_31 := by rw [eσ_32]; exact up2_same _ _ _ _
      refine lv_iload_n hx hb dX12_hasNextRow_50 rfl (lv_at hl 0 rfl) ?_
      refine lv_iconst (v := 1) hx hb dX12_hasNextRow_51 (by decide) ?_
      refine lv_iadd hx hb dX12_hasNextRow_52 ?_
      refine tp_i (w := 2) (by decide) ?_
      refine lv_istore_n (lv' := [(2, .int 2), (1, .int 1), (0, .ref h0)]) hx hb dX12_hasNextRow_53 rfl hl (by decide) rfl (fun ls hl => ?_)
      refine lv_iload_n hx hb dX12_hasNextRow_54 rfl (lv_at hl 0 rfl) ?_
      refine lv_aload_n hx hb dX12_hasNextRow_55 rfl (lv_at hl 2 rfl) ?_
      refine t_gk hx hb hts hown hK hB mh0 th0 fq_12_20 hb_11 mw_5_236 dX12_hasNextRow_56 ?_
      refine lv_iconst (v := 1) hx hb dX12_hasNextRow_59 (by decide) ?_
      have k_34 : σ_32 b_11 1 = 2 := by rw [eσ_32, up2_nea _ _ (tg_ne tb_11 tbr (by decide))]; exact ex_12.symm
      refine t_aj hx hb hK hB mb_11 tb_11 ai_70 (i_in (by decide) (by decide)) dX12_hasNextRow_60 (fun x_35 ex_35 lx_35 ux_35 => ?_)
      have qx_35 : x_35 = 2 := ex_35.trans k_34
      clear lx_35 ux_35
      subst qx_35
      refine lv_icmp_ge (tgt := 77) hx hb dX12_hasNextRow_61 (by decide) (fun _ => ?_) (fun c9 => absurd (by decide) c9)
      refine lv_iconst (v := 1) hx hb dX12_hasNextRow_77 (by decide) ?_
      have k_36 : σ_32 br 0 = (σ br 0) := by rw [eσ_32, up2_nej _ _ (by decide)]
      have k_37 : σ_32 br 2 = (σ br 2) := by rw [eσ_32, up2_nej _ _ (by decide)]
      have k_38 : σ_32 br 3 = (σ br 3) := by rw [eσ_32, up2_nej _ _ (by decide)]
      have k_39 : σ_32 br 4 = (σ br 4) := by rw [eσ_32, up2_nej _ _ (by decide)]
      exact W.zret (v := 1) hx hb hr rfl (fun t ht hW => ⟨⟨1, (σ_32, ρ), rfl, ⟨hB.2.1, hB.2.2, ⟨(show 0 ≤ (1 : Int32).toInt ∧ (1 : Int32).toInt ≤ 1 from ⟨by decide, by decide⟩), (show (σ br 0).toInt * 10000 + (σ br 1).toInt * 1000 + (σ br 2).toInt * 100 + (σ br 3).toInt * 10 + (σ br 4).toInt * 1 ≤ (σ_32 br 0).toInt * 10000 + (σ_32 br 1).toInt * 1000 + (σ_32 br 2).toInt * 100 + (σ_32 br 3).toInt * 10 + (σ_32 br 4).toInt * 1 from (by rw [k_36, k_33, k_37, k_38, k_39]; (first | omega | decide | (simp only [show (0 : Int32).toInt = 0 from by decide]; omega)))), (show (1 : Int32).toInt = 1 → (σ br 0).toInt * 10000 + (σ br 1).toInt * 1000 + (σ br 2).toInt * 100 + (σ br 3).toInt * 10 + (σ br 4).toInt * 1 < (σ_32 br 0).toInt * 10000 + (σ_32 br 1).toInt * 1000 + (σ_32 br 2).toInt * 100 + (σ_32 br 3).toInt * 10 + (σ_32 br 4).toInt * 1 from (fun h => (by rw [k_36, k_33, k_37, k_38, k_39]; (first | omega | (simp only [show (0 : Int32).toInt = 0 from by decide]; omega))))), (show (σ_32 br 0).toInt ≤ (σ bm 0).toInt from (by rw [k_36]; (first | omega | (simp only [show (0 : Int32).toInt = 0 from by decide]; omega)))), (show (σ_32 br 1).toInt ≤ (σ bm 1).toInt from (by rw [k_33]; (first | omega | (simp only [show (0 : Int32).toInt = 0 from by decide]; omega)))), (show (σ_32 br 2).toInt ≤ (σ bm 2).toInt from (by rw [k_37]; (first | omega | (simp only [show (0 : Int32).toInt = 0 from by decide]; omega)))), (show (σ_32 br 3).toInt ≤ (σ bm 3).toInt from (by rw [k_38]; (first | omega | (simp only [show (0 : Int32).toInt = 0 from by decide]; omega)))), (show (σ_32 br 4).toInt ≤ (σ bm 4).toInt from (by rw [k_39]; (first | omega | (simp only [show (0 : Int32).toInt = 0 from by decide]; omega))))⟩⟩, (show TP D cA L T r σ_32 ρ t.heap from by rw [ht]; exact hB.1)⟩, hS.F ht⟩) hS.2.2 dX12_hasNextRow_78
    · skip
      have uc_29 := j_eq c_29
      refine lv_iinc (v := 0) (lv' := [(1, .int 0), (0, .ref h0)]) hx hb dX12_hasNextRow_28 hl (k := 0) rfl (by decide) (by decide) rfl (fun ls hl => ?_)
      refine lv_goto (tgt := 9) hx hb dX12_hasNextRow_31 (by decide) ?_
      refine lv_iload_n hx hb dX12_hasNextRow_9 rfl (lv_at hl 0 rfl) ?_
      refine lv_if_lt (tgt := 34) hx hb dX12_hasNextRow_10 (by decide) (fun c9 => absurd c9 (by decide)) (fun _ => ?_)
      refine lv_aload_n hx hb dX12_hasNextRow_13 rfl (lv_at hl 1 rfl) ?_
      refine t_gk hx hb hts hown hK hB mh0 th0 fq_12_28 hbr mw_6_4 dX12_hasNextRow_14 ?_
      refine lv_iload_n hx hb dX12_hasNextRow_17 rfl (lv_at hl 0 rfl) ?_
      refine t_ai hx hb hK hB mbr tbr ai_75 (fun _ => rfl) (i_in (by decide) (by decide)) dX12_hasNextRow_18 (fun x_40 ex_40 lx_40 ux_40 => ?_)
      have qx_40 : x_40 = (σ br 0) := ex_40.trans rfl
      have qx_40 := qx_40.symm
      subst qx_40
      refine lv_aload_n hx hb dX12_hasNextRow_19 rfl (lv_at hl 1 rfl) ?_
      refine t_gk hx hb hts hown hK hB mh0 th0 fq_12_26 hbm mw_6_2 dX12_hasNextRow_20 ?_
      refine lv_iload_n hx hb dX12_hasNextRow_23 rfl (lv_at hl 0 rfl) ?_
      refine t_ai hx hb hK hB mbm tbm ai_73 (fun _ => rfl) (i_in (by decide) (by decide)) dX12_hasNextRow_24 (fun x_41 ex_41 lx_41 ux_41 => ?_)
      have qx_41 : x_41 = (σ bm 0) := ex_41.trans rfl
      have qx_41 := qx_41.symm
      subst qx_41
      refine lv_icmp_ne (tgt := 34) hx hb dX12_hasNextRow_25 (by decide) (fun c_42 => ?_) (fun c_42 => ?_)
      · skip
        have uc_42 := j_ne c_42
        refine lv_iload_n hx hb dX12_hasNextRow_34 rfl (lv_at hl 0 rfl) ?_
        refine lv_if_ge (tgt := 40) hx hb dX12_hasNextRow_35 (by decide) (fun _ => ?_) (fun c9 => absurd (by decide) c9)
        refine lv_aload_n hx hb dX12_hasNextRow_40 rfl (lv_at hl 1 rfl) ?_
        refine t_gk hx hb hts hown hK hB mh0 th0 fq_12_28 hbr mw_6_4 dX12_hasNextRow_41 ?_
        refine lv_iload_n hx hb dX12_hasNextRow_44 rfl (lv_at hl 0 rfl) ?_
        refine lv_dup2_11 hx hb dX12_hasNextRow_45 rfl rfl ?_
        refine t_ai hx hb hK hB mbr tbr ai_75 (fun _ => rfl) (i_in (by decide) (by decide)) dX12_hasNextRow_46 (fun x_43 ex_43 lx_43 ux_43 => ?_)
        have qx_43 : x_43 = (σ br 0) := ex_43.trans rfl
        have qx_43 := qx_43.symm
        subst qx_43
        refine lv_iconst (v := 1) hx hb dX12_hasNextRow_47 (by decide) ?_
        refine lv_iadd hx hb dX12_hasNextRow_48 ?_
        refine lv_topi (fun x_44 ex_44 => ?_)
        have vx_44 := b_add (rfl : (σ br 0).toInt = _) (by decide : (1 : Int32).toInt = 1) ex_44 (by omega) (by omega)
        refine t_si hx hb hK hLA hB hS mbr tbr ai_75 (i_in (by decide) (by decide)) (by show 0 ≤ _; (first | omega | (subst_vars; omega))) (by show _ ≤ 9; (first | omega | (subst_vars; omega))) (Or.inr (by decide)) dX12_hasNextRow_49 (fun H locs σ_45 eσ_45 hB hS => ?_)
        have k_46 : σ_45 br 0 = x_44 := by rw [eσ_45]; exact up2_same _ _ _ _
        refine lv_iload_n hx hb dX12_hasNextRow_50 rfl (lv_at hl 0 rfl) ?_
        refine lv_iconst (v := 1) hx hb dX12_hasNextRow_51 (by decide) ?_
        refine lv_iadd hx hb dX12_hasNextRow_52 ?_
        refine tp_i (w := 1) (by decide) ?_
        refine lv_istore_n (lv' := [(2, .int 1), (1, .int 0), (0, .ref h0)]) hx hb dX12_hasNextRow_53 rfl hl (by decide) rfl (fun ls hl => ?_)
        refine lv_iload_n hx hb dX12_hasNextRow_54 rfl (lv_at hl 0 rfl) ?_
        refine lv_aload_n hx hb dX12_hasNextRow_55 rfl (lv_at hl 2 rfl) ?_
        refine t_gk hx hb hts hown hK hB mh0 th0 fq_12_20 hb_11 mw_5_236 dX12_hasNextRow_56 ?_
        refine lv_iconst (v := 1) hx hb dX12_hasNextRow_59 (by decide) ?_
        have k_47 : σ_45 b_11 1 = 2 := by rw [eσ_45, up2_nej _ _ (by decide)]; exact ex_12.symm
        refine t_aj hx hb hK hB mb_11 tb_11 ai_70 (i_in (by decide) (by decide)) dX12_hasNextRow_60 (fun x_48 ex_48 lx_48 ux_48 => ?_)
        have qx_48 : x_48 = 2 := ex_48.trans k_47
        clear lx_48 ux_48
        subst qx_48
        refine lv_icmp_ge (tgt := 77) hx hb dX12_hasNextRow_61 (by decide) (fun c9 => absurd c9 (by decide)) (fun _ => ?_)
        refine lv_aload_n hx hb dX12_hasNextRow_64 rfl (lv_at hl 2 rfl) ?_
        refine t_gk hx hb hts hown hK hB mh0 th0 fq_12_28 hbr mw_6_4 dX12_hasNextRow_65 ?_
        refine lv_iload_n hx hb dX12_hasNextRow_68 rfl (lv_at hl 0 rfl) ?_
        refine lv_iconst (v := 0) hx hb dX12_hasNextRow_69 (by decide) ?_
        refine t_si hx hb hK hLA hB hS mbr tbr ai_75 (i_in (by decide) (by decide)) (show 0 ≤ (0 : Int32).toInt by decide) (show (0 : Int32).toInt ≤ 9 by decide) (Or.inr (by decide)) dX12_hasNextRow_70 (fun H locs σ_49 eσ_49 hB hS => ?_)
        have k_50 : σ_49 br 1 = 0 := by rw [eσ_49]; exact up2_same _ _ _ _
        refine lv_iinc (v := 2) (lv' := [(2, .int 2), (1, .int 0), (0, .ref h0)]) hx hb dX12_hasNextRow_71 hl (k := 0) rfl (by decide) (by decide) rfl (fun ls hl => ?_)
        refine lv_goto (tgt := 54) hx hb dX12_hasNextRow_74 (by decide) ?_
        refine lv_iload_n hx hb dX12_hasNextRow_54 rfl (lv_at hl 0 rfl) ?_
        refine lv_aload_n hx hb dX12_hasNextRow_55 rfl (lv_at hl 2 rfl) ?_
        refine t_gk hx hb hts hown hK hB mh0 th0 fq_12_20 hb_11 mw_5_236 dX12_hasNextRow_56 ?_
        refine lv_iconst (v := 1) hx hb dX12_hasNextRow_59 (by decide) ?_
        have k_51 : σ_49 b_11 1 = 2 := by rw [eσ_49, up2_nea _ _ (tg_ne tb_11 tbr (by decide))]; exact k_47
        refine t_aj hx hb hK hB mb_11 tb_11 ai_70 (i_in (by decide) (by decide)) dX12_hasNextRow_60 (fun x_52 ex_52 lx_52 ux_52 => ?_)
        have qx_52 : x_52 = 2 := ex_52.trans k_51
        clear lx_52 ux_52
        subst qx_52
        refine lv_icmp_ge (tgt := 77) hx hb dX12_hasNextRow_61 (by decide) (fun _ => ?_) (fun c9 => absurd (by decide) c9)
        refine lv_iconst (v := 1) hx hb dX12_hasNextRow_77 (by decide) ?_
        have k_53 : σ_49 br 0 = x_44 := by rw [eσ_49, up2_nej _ _ (by decide)]; exact k_46
        have k_54 : σ_45 br 2 = (σ br 2) := by rw [eσ_45, up2_nej _ _ (by decide)]
        have k_55 : σ_49 br 2 = (σ br 2) := by rw [eσ_49, up2_nej _ _ (by decide)]; exact k_54
        have k_56 : σ_45 br 3 = (σ br 3) := by rw [eσ_45, up2_nej _ _ (by decide)]
        have k_57 : σ_49 br 3 = (σ br 3) := by rw [eσ_49, up2_nej _ _ (by decide)]; exact k_56
        have k_58 : σ_45 br 4 = (σ br 4) := by rw [eσ_45, up2_nej _ _ (by decide)]
        have k_59 : σ_49 br 4 = (σ br 4) := by rw [eσ_49, up2_nej _ _ (by decide)]; exact k_58
        exact W.zret (v := 1) hx hb hr rfl (fun t ht hW => ⟨⟨1, (σ_49, ρ), rfl, ⟨hB.2.1, hB.2.2, ⟨(show 0 ≤ (1 : Int32).toInt ∧ (1 : Int32).toInt ≤ 1 from ⟨by decide, by decide⟩), (show (σ br 0).toInt * 10000 + (σ br 1).toInt * 1000 + (σ br 2).toInt * 100 + (σ br 3).toInt * 10 + (σ br 4).toInt * 1 ≤ (σ_49 br 0).toInt * 10000 + (σ_49 br 1).toInt * 1000 + (σ_49 br 2).toInt * 100 + (σ_49 br 3).toInt * 10 + (σ_49 br 4).toInt * 1 from (by rw [k_53, k_50, k_55, k_57, k_59]; (first | omega | decide | (simp only [show (0 : Int32).toInt = 0 from by decide]; omega)))), (show (1 : Int32).toInt = 1 → (σ br 0).toInt * 10000 + (σ br 1).toInt * 1000 + (σ br 2).toInt * 100 + (σ br 3).toInt * 10 + (σ br 4).toInt * 1 < (σ_49 br 0).toInt * 10000 + (σ_49 br 1).toInt * 1000 + (σ_49 br 2).toInt * 100 + (σ_49 br 3).toInt * 10 + (σ_49 br 4).toInt * 1 from (fun h => (by rw [k_53, k_50, k_55, k_57, k_59]; (first | omega | (simp only [show (0 : Int32).toInt = 0 from by decide]; omega))))), (show (σ_49 br 0).toInt ≤ (σ bm 0).toInt from (by rw [k_53]; (first | omega | (simp only [show (0 : Int32).toInt = 0 from by decide]; omega)))), (show (σ_49 br 1).toInt ≤ (σ bm 1).toInt from (by rw [k_50]; (first | omega | (simp only [show (0 : Int32).toInt = 0 from by decide]; omega)))), (show (σ_49 br 2).toInt ≤ (σ bm 2).toInt from (by rw [k_55]; (first | omega | (simp only [show (0 : Int32).toInt = 0 from by decide]; omega)))), (show (σ_49 br 3).toInt ≤ (σ bm 3).toInt from (by rw [k_57]; (first | omega | (simp only [show (0 : Int32).toInt = 0 from by decide]; omega)))), (show (σ_49 br 4).toInt ≤ (σ bm 4).toInt from (by rw [k_59]; (first | omega | (simp only [show (0 : Int32).toInt = 0 from by decide]; omega))))⟩⟩, (show TP D cA L T r σ_49 ρ t.heap from by rw [ht]; exact hB.1)⟩, hS.F ht⟩) hS.2.2 dX12_hasNextRow_78
      · skip
        have uc_42 := j_eq c_42
        refine lv_iinc (v := (-1)) (lv' := [(1, .int (-1)), (0, .ref h0)]) hx hb dX12_hasNextRow_28 hl (k := 0) rfl (by decide) (by decide) rfl (fun ls hl => ?_)
        refine lv_goto (tgt := 9) hx hb dX12_hasNextRow_31 (by decide) ?_
        refine lv_iload_n hx hb dX12_hasNextRow_9 rfl (lv_at hl 0 rfl) ?_
        refine lv_if_lt (tgt := 34) hx hb dX12_hasNextRow_10 (by decide) (fun _ => ?_) (fun c9 => absurd (by decide) c9)
        refine lv_iload_n hx hb dX12_hasNextRow_34 rfl (lv_at hl 0 rfl) ?_
        refine lv_if_ge (tgt := 40) hx hb dX12_hasNextRow_35 (by decide) (fun c9 => absurd c9 (by decide)) (fun _ => ?_)
        refine lv_iconst (v := 0) hx hb dX12_hasNextRow_38 (by decide) ?_
        exact W.zret (v := 0) hx hb hr rfl (fun t ht hW => ⟨⟨0, (σ, ρ), rfl, ⟨hB.2.1, hB.2.2, ⟨(show 0 ≤ (0 : Int32).toInt ∧ (0 : Int32).toInt ≤ 1 from ⟨by decide, by decide⟩), (show (σ br 0).toInt * 10000 + (σ br 1).toInt * 1000 + (σ br 2).toInt * 100 + (σ br 3).toInt * 10 + (σ br 4).toInt * 1 ≤ (σ br 0).toInt * 10000 + (σ br 1).toInt * 1000 + (σ br 2).toInt * 100 + (σ br 3).toInt * 10 + (σ br 4).toInt * 1 from (by (first | omega | decide | (simp only [show (0 : Int32).toInt = 0 from by decide]; omega)))), (show (0 : Int32).toInt = 1 → (σ br 0).toInt * 10000 + (σ br 1).toInt * 1000 + (σ br 2).toInt * 100 + (σ br 3).toInt * 10 + (σ br 4).toInt * 1 < (σ br 0).toInt * 10000 + (σ br 1).toInt * 1000 + (σ br 2).toInt * 100 + (σ br 3).toInt * 10 + (σ br 4).toInt * 1 from (fun h => absurd h (by decide))), (show (σ br 0).toInt ≤ (σ bm 0).toInt from (by (first | omega | (simp only [show (0 : Int32).toInt = 0 from by decide]; omega)))), (show (σ br 1).toInt ≤ (σ bm 1).toInt from (by (first | omega | (simp only [show (0 : Int32).toInt = 0 from by decide]; omega)))), (show (σ br 2).toInt ≤ (σ bm 2).toInt from (by (first | omega | (simp only [show (0 : Int32).toInt = 0 from by decide]; omega)))), (show (σ br 3).toInt ≤ (σ bm 3).toInt from (by (first | omega | (simp only [show (0 : Int32).toInt = 0 from by decide]; omega)))), (show (σ br 4).toInt ≤ (σ bm 4).toInt from (by (first | omega | (simp only [show (0 : Int32).toInt = 0 from by decide]; omega))))⟩⟩, (show TP D cA L T r σ ρ t.heap from by rw [ht]; exact hB.1)⟩, hS.F ht⟩) hS.2.2 dX12_hasNextRow_39
  · skip
    have c_13x : x_12 = 3 := i_is (by decide) c_13j
    subst c_13x
    refine lv_iconst (v := 1) hx hb dX12_hasNextRow_6 (by decide) ?_
    refine lv_isub hx hb dX12_hasNextRow_7 ?_
    refine tp_i (w := 2) (by decide) ?_
    refine lv_istore_n (lv' := [(1, .int 2), (0, .ref h0)]) hx hb dX12_hasNextRow_8 rfl hl (by decide) rfl (fun ls hl => ?_)
    refine lv_iload_n hx hb dX12_hasNextRow_9 rfl (lv_at hl 0 rfl) ?_
    refine lv_if_lt (tgt := 34) hx hb dX12_hasNextRow_10 (by decide) (fun c9 => absurd c9 (by decide)) (fun _ => ?_)
    refine lv_aload_n hx hb dX12_hasNextRow_13 rfl (lv_at hl 1 rfl) ?_
    refine t_gk hx hb hts hown hK hB mh0 th0 fq_12_28 hbr mw_6_4 dX12_hasNextRow_14 ?_
    refine lv_iload_n hx hb dX12_hasNextRow_17 rfl (lv_at hl 0 rfl) ?_
    refine t_ai hx hb hK hB mbr tbr ai_75 (fun _ => rfl) (i_in (by decide) (by decide)) dX12_hasNextRow_18 (fun x_60 ex_60 lx_60 ux_60 => ?_)
    have qx_60 : x_60 = (σ br 2) := ex_60.trans rfl
    have qx_60 := qx_60.symm
    subst qx_60
    refine lv_aload_n hx hb dX12_hasNextRow_19 rfl (lv_at hl 1 rfl) ?_
    refine t_gk hx hb hts hown hK hB mh0 th0 fq_12_26 hbm mw_6_2 dX12_hasNextRow_20 ?_
    refine lv_iload_n hx hb dX12_hasNextRow_23 rfl (lv_at hl 0 rfl) ?_
    refine t_ai hx hb hK hB mbm tbm ai_73 (fun _ => rfl) (i_in (by decide) (by decide)) dX12_hasNextRow_24 (fun x_61 ex_61 lx_61 ux_61 => ?_)
    have qx_61 : x_61 = (σ bm 2) := ex_61.trans rfl
    have qx_61 := qx_61.symm
    subst qx_61
    refine lv_icmp_ne (tgt := 34) hx hb dX12_hasNextRow_25 (by decide) (fun c_62 => ?_) (fun c_62 => ?_)
    · skip
      have uc_62 := j_ne c_62
      refine lv_iload_n hx hb dX12_hasNextRow_34 rfl (lv_at hl 0 rfl) ?_
      refine lv_if_ge (tgt := 40) hx hb dX12_hasNextRow_35 (by decide) (fun _ => ?_) (fun c9 => absurd (by decide) c9)
      refine lv_aload_n hx hb dX12_hasNextRow_40 rfl (lv_at hl 1 rfl) ?_
      refine t_gk hx hb hts hown hK hB mh0 th0 fq_12_28 hbr mw_6_4 dX12_hasNextRow_41 ?_
      refine lv_iload_n hx hb dX12_hasNextRow_44 rfl (lv_at hl 0 rfl) ?_
      refine lv_dup2_11 hx hb dX12_hasNextRow_45 rfl rfl ?_
      refine t_ai hx hb hK hB mbr tbr ai_75 (fun _ => rfl) (i_in (by decide) (by decide)) dX12_hasNextRow_46 (fun x_63 ex_63 lx_63 ux_63 => ?_)
      have qx_63 : x_63 = (σ br 2) := ex_63.trans rfl
      have qx_63 := qx_63.symm
      subst qx_63
      refine lv_iconst (v := 1) hx hb dX12_hasNextRow_47 (by decide) ?_
      refine lv_iadd hx hb dX12_hasNextRow_48 ?_
      refine lv_topi (fun x_64 ex_64 => ?_)
      have vx_64 := b_add (rfl : (σ br 2).toInt = _) (by decide : (1 : Int32).toInt = 1) ex_64 (by omega) (by omega)
      refine t_si hx hb hK hLA hB hS mbr tbr ai_75 (i_in (by decide) (by decide)) (by show 0 ≤ _; (first | omega | (subst_vars; omega))) (by show _ ≤ 9; (first | omega | (subst_vars; omega))) (Or.inr (by decide)) dX12_hasNextRow_49 (fun H locs σ_65 eσ_65 hB hS => ?_)
      have k_66 : σ_65 br 2 = x_64 := by rw [eσ_65]; exact up2_same _ _ _ _
      refine lv_iload_n hx hb dX12_hasNextRow_50 rfl (lv_at hl 0 rfl) ?_
      refine lv_iconst (v := 1) hx hb dX12_hasNextRow_51 (by decide) ?_
      refine lv_iadd hx hb dX12_hasNextRow_52 ?_
      refine tp_i (w := 3) (by decide) ?_
      refine lv_istore_n (lv' := [(2, .int 3), (1, .int 2), (0, .ref h0)]) hx hb dX12_hasNextRow_53 rfl hl (by decide) rfl (fun ls hl => ?_)
      refine lv_iload_n hx hb dX12_hasNextRow_54 rfl (lv_at hl 0 rfl) ?_
      refine lv_aload_n hx hb dX12_hasNextRow_55 rfl (lv_at hl 2 rfl) ?_
      refine t_gk hx hb hts hown hK hB mh0 th0 fq_12_20 hb_11 mw_5_236 dX12_hasNextRow_56 ?_
      refine lv_iconst (v := 1) hx hb dX12_hasNextRow_59 (by decide) ?_
      have k_67 : σ_65 b_11 1 = 3 := by rw [eσ_65, up2_nej _ _ (by decide)]; exact ex_12.symm
      refine t_aj hx hb hK hB mb_11 tb_11 ai_70 (i_in (by decide) (by decide)) dX12_hasNextRow_60 (fun x_68 ex_68 lx_68 ux_68 => ?_)
      have qx_68 : x_68 = 3 := ex_68.trans k_67
      clear lx_68 ux_68
      subst qx_68
      refine lv_icmp_ge (tgt := 77) hx hb dX12_hasNextRow_61 (by decide) (fun _ => ?_) (fun c9 => absurd (by decide) c9)
      refine lv_iconst (v := 1) hx hb dX12_hasNextRow_77 (by decide) ?_
      have k_69 : σ_65 br 0 = (σ br 0) := by rw [eσ_65, up2_nej _ _ (by decide)]
      have k_70 : σ_65 br 1 = (σ br 1) := by rw [eσ_65, up2_nej _ _ (by decide)]
      have k_71 : σ_65 br 3 = (σ br 3) := by rw [eσ_65, up2_nej _ _ (by decide)]
      have k_72 : σ_65 br 4 = (σ br 4) := by rw [eσ_65, up2_nej _ _ (by decide)]
      exact W.zret (v := 1) hx hb hr rfl (fun t ht hW => ⟨⟨1, (σ_65, ρ), rfl, ⟨hB.2.1, hB.2.2, ⟨(show 0 ≤ (1 : Int32).toInt ∧ (1 : Int32).toInt ≤ 1 from ⟨by decide, by decide⟩), (show (σ br 0).toInt * 10000 + (σ br 1).toInt * 1000 + (σ br 2).toInt * 100 + (σ br 3).toInt * 10 + (σ br 4).toInt * 1 ≤ (σ_65 br 0).toInt * 10000 + (σ_65 br 1).toInt * 1000 + (σ_65 br 2).toInt * 100 + (σ_65 br 3).toInt * 10 + (σ_65 br 4).toInt * 1 from (by rw [k_69, k_70, k_66, k_71, k_72]; (first | omega | decide | (simp only [show (0 : Int32).toInt = 0 from by decide]; omega)))), (show (1 : Int32).toInt = 1 → (σ br 0).toInt * 10000 + (σ br 1).toInt * 1000 + (σ br 2).toInt * 100 + (σ br 3).toInt * 10 + (σ br 4).toInt * 1 < (σ_65 br 0).toInt * 10000 + (σ_65 br 1).toInt * 1000 + (σ_65 br 2).toInt * 100 + (σ_65 br 3).toInt * 10 + (σ_65 br 4).toInt * 1 from (fun h => (by rw [k_69, k_70, k_66, k_71, k_72]; (first | omega | (simp only [show (0 : Int32).toInt = 0 from by decide]; omega))))), (show (σ_65 br 0).toInt ≤ (σ bm 0).toInt from (by rw [k_69]; (first | omega | (simp only [show (0 : Int32).toInt = 0 from by decide]; omega)))), (show (σ_65 br 1).toInt ≤ (σ bm 1).toInt from (by rw [k_70]; (first | omega | (simp only [show (0 : Int32).toInt = 0 from by decide]; omega)))), (show (σ_65 br 2).toInt ≤ (σ bm 2).toInt from (by rw [k_66]; (first | omega | (simp only [show (0 : Int32).toInt = 0 from by decide]; omega)))), (show (σ_65 br 3).toInt ≤ (σ bm 3).toInt from (by rw [k_71]; (first | omega | (simp only [show (0 : Int32).toInt = 0 from by decide]; omega)))), (show (σ_65 br 4).toInt ≤ (σ bm 4).toInt from (by rw [k_72]; (first | omega | (simp only [show (0 : Int32).toInt = 0 from by decide]; omega))))⟩⟩, (show TP D cA L T r σ_65 ρ t.heap from by rw [ht]; exact hB.1)⟩, hS.F ht⟩) hS.2.2 dX12_hasNextRow_78
    · skip
      have uc_62 := j_eq c_62
      refine lv_iinc (v := 1) (lv' := [(1, .int 1), (0, .ref h0)]) hx hb dX12_hasNextRow_28 hl (k := 0) rfl (by decide) (by decide) rfl (fun ls hl => ?_)
      refine lv_goto (tgt := 9) hx hb dX12_hasNextRow_31 (by decide) ?_
      refine lv_iload_n hx hb dX12_hasNextRow_9 rfl (lv_at hl 0 rfl) ?_
      refine lv_if_lt (tgt := 34) hx hb dX12_hasNextRow_10 (by decide) (fun c9 => absurd c9 (by decide)) (fun _ => ?_)
      refine lv_aload_n hx hb dX12_hasNextRow_13 rfl (lv_at hl 1 rfl) ?_
      refine t_gk hx hb hts hown hK hB mh0 th0 fq_12_28 hbr mw_6_4 dX12_hasNextRow_14 ?_
      refine lv_iload_n hx hb dX12_hasNextRow_17 rfl (lv_at hl 0 rfl) ?_
      refine t_ai hx hb hK hB mbr tbr ai_75 (fun _ => rfl) (i_in (by decide) (by decide)) dX12_hasNextRow_18 (fun x_73 ex_73 lx_73 ux_73 => ?_)
      have qx_73 : x_73 = (σ br 1) := ex_73.trans rfl
      have qx_73 := qx_73.symm
      subst qx_73
      refine lv_aload_n hx hb dX12_hasNextRow_19 rfl (lv_at hl 1 rfl) ?_
      refine t_gk hx hb hts hown hK hB mh0 th0 fq_12_26 hbm mw_6_2 dX12_hasNextRow_20 ?_
      refine lv_iload_n hx hb dX12_hasNextRow_23 rfl (lv_at hl 0 rfl) ?_
      refine t_ai hx hb hK hB mbm tbm ai_73 (fun _ => rfl) (i_in (by decide) (by decide)) dX12_hasNextRow_24 (fun x_74 ex_74 lx_74 ux_74 => ?_)
      have qx_74 : x_74 = (σ bm 1) := ex_74.trans rfl
      have qx_74 := qx_74.symm
      subst qx_74
      refine lv_icmp_ne (tgt := 34) hx hb dX12_hasNextRow_25 (by decide) (fun c_75 => ?_) (fun c_75 => ?_)
      · skip
        have uc_75 := j_ne c_75
        refine lv_iload_n hx hb dX12_hasNextRow_34 rfl (lv_at hl 0 rfl) ?_
        refine lv_if_ge (tgt := 40) hx hb dX12_hasNextRow_35 (by decide) (fun _ => ?_) (fun c9 => absurd (by decide) c9)
        refine lv_aload_n hx hb dX12_hasNextRow_40 rfl (lv_at hl 1 rfl) ?_
        refine t_gk hx hb hts hown hK hB mh0 th0 fq_12_28 hbr mw_6_4 dX12_hasNextRow_41 ?_
        refine lv_iload_n hx hb dX12_hasNextRow_44 rfl (lv_at hl 0 rfl) ?_
        refine lv_dup2_11 hx hb dX12_hasNextRow_45 rfl rfl ?_
        refine t_ai hx hb hK hB mbr tbr ai_75 (fun _ => rfl) (i_in (by decide) (by decide)) dX12_hasNextRow_46 (fun x_76 ex_76 lx_76 ux_76 => ?_)
        have qx_76 : x_76 = (σ br 1) := ex_76.trans rfl
        have qx_76 := qx_76.symm
        subst qx_76
        refine lv_iconst (v := 1) hx hb dX12_hasNextRow_47 (by decide) ?_
        refine lv_iadd hx hb dX12_hasNextRow_48 ?_
        refine lv_topi (fun x_77 ex_77 => ?_)
        have vx_77 := b_add (rfl : (σ br 1).toInt = _) (by decide : (1 : Int32).toInt = 1) ex_77 (by omega) (by omega)
        refine t_si hx hb hK hLA hB hS mbr tbr ai_75 (i_in (by decide) (by decide)) (by show 0 ≤ _; (first | omega | (subst_vars; omega))) (by show _ ≤ 9; (first | omega | (subst_vars; omega))) (Or.inr (by decide)) dX12_hasNextRow_49 (fun H locs σ_78 eσ_78 hB hS => ?_)
        have k_79 : σ_78 br 1 = x_77 := by rw [eσ_78]; exact up2_same _ _ _ _
        refine lv_iload_n hx hb dX12_hasNextRow_50 rfl (lv_at hl 0 rfl) ?_
        refine lv_iconst (v := 1) hx hb dX12_hasNextRow_51 (by decide) ?_
        refine lv_iadd hx hb dX12_hasNextRow_52 ?_
        refine tp_i (w := 2) (by decide) ?_
        refine lv_istore_n (lv' := [(2, .int 2), (1, .int 1), (0, .ref h0)]) hx hb dX12_hasNextRow_53 rfl hl (by decide) rfl (fun ls hl => ?_)
        refine lv_iload_n hx hb dX12_hasNextRow_54 rfl (lv_at hl 0 rfl) ?_
        refine lv_aload_n hx hb dX12_hasNextRow_55 rfl (lv_at hl 2 rfl) ?_
        refine t_gk hx hb hts hown hK hB mh0 th0 fq_12_20 hb_11 mw_5_236 dX12_hasNextRow_56 ?_
        refine lv_iconst (v := 1) hx hb dX12_hasNextRow_59 (by decide) ?_
        have k_80 : σ_78 b_11 1 = 3 := by rw [eσ_78, up2_nea _ _ (tg_ne tb_11 tbr (by decide))]; exact ex_12.symm
        refine t_aj hx hb hK hB mb_11 tb_11 ai_70 (i_in (by decide) (by decide)) dX12_hasNextRow_60 (fun x_81 ex_81 lx_81 ux_81 => ?_)
        have qx_81 : x_81 = 3 := ex_81.trans k_80
        clear lx_81 ux_81
        subst qx_81
        refine lv_icmp_ge (tgt := 77) hx hb dX12_hasNextRow_61 (by decide) (fun c9 => absurd c9 (by decide)) (fun _ => ?_)
        refine lv_aload_n hx hb dX12_hasNextRow_64 rfl (lv_at hl 2 rfl) ?_
        refine t_gk hx hb hts hown hK hB mh0 th0 fq_12_28 hbr mw_6_4 dX12_hasNextRow_65 ?_
        refine lv_iload_n hx hb dX12_hasNextRow_68 rfl (lv_at hl 0 rfl) ?_
        refine lv_iconst (v := 0) hx hb dX12_hasNextRow_69 (by decide) ?_
        refine t_si hx hb hK hLA hB hS mbr tbr ai_75 (i_in (by decide) (by decide)) (show 0 ≤ (0 : Int32).toInt by decide) (show (0 : Int32).toInt ≤ 9 by decide) (Or.inr (by decide)) dX12_hasNextRow_70 (fun H locs σ_82 eσ_82 hB hS => ?_)
        have k_83 : σ_82 br 2 = 0 := by rw [eσ_82]; exact up2_same _ _ _ _
        refine lv_iinc (v := 3) (lv' := [(2, .int 3), (1, .int 1), (0, .ref h0)]) hx hb dX12_hasNextRow_71 hl (k := 0) rfl (by decide) (by decide) rfl (fun ls hl => ?_)
        refine lv_goto (tgt := 54) hx hb dX12_hasNextRow_74 (by decide) ?_
        refine lv_iload_n hx hb dX12_hasNextRow_54 rfl (lv_at hl 0 rfl) ?_
        refine lv_aload_n hx hb dX12_hasNextRow_55 rfl (lv_at hl 2 rfl) ?_
        refine t_gk hx hb hts hown hK hB mh0 th0 fq_12_20 hb_11 mw_5_236 dX12_hasNextRow_56 ?_
        refine lv_iconst (v := 1) hx hb dX12_hasNextRow_59 (by decide) ?_
        have k_84 : σ_82 b_11 1 = 3 := by rw [eσ_82, up2_nej _ _ (by decide)]; exact k_80
        refine t_aj hx hb hK hB mb_11 tb_11 ai_70 (i_in (by decide) (by decide)) dX12_hasNextRow_60 (fun x_85 ex_85 lx_85 ux_85 => ?_)
        have qx_85 : x_85 = 3 := ex_85.trans k_84
        clear lx_85 ux_85
        subst qx_85
        refine lv_icmp_ge (tgt := 77) hx hb dX12_hasNextRow_61 (by decide) (fun _ => ?_) (fun c9 => absurd (by decide) c9)
        refine lv_iconst (v := 1) hx hb dX12_hasNextRow_77 (by decide) ?_
        have k_86 : σ_78 br 0 = (σ br 0) := by rw [eσ_78, up2_nej _ _ (by decide)]
        have k_87 : σ_82 br 0 = (σ br 0) := by rw [eσ_82, up2_nej _ _ (by decide)]; exact k_86
        have k_88 : σ_82 br 1 = x_77 := by rw [eσ_82, up2_nej _ _ (by decide)]; exact k_79
        have k_89 : σ_78 br 3 = (σ br 3) := by rw [eσ_78, up2_nej _ _ (by decide)]
        have k_90 : σ_82 br 3 = (σ br 3) := by rw [eσ_82, up2_nej _ _ (by decide)]; exact k_89
        have k_91 : σ_78 br 4 = (σ br 4) := by rw [eσ_78, up2_nej _ _ (by decide)]
        have k_92 : σ_82 br 4 = (σ br 4) := by rw [eσ_82, up2_nej _ _ (by decide)]; exact k_91
        exact W.zret (v := 1) hx hb hr rfl (fun t ht hW => ⟨⟨1, (σ_82, ρ), rfl, ⟨hB.2.1, hB.2.2, ⟨(show 0 ≤ (1 : Int32).toInt ∧ (1 : Int32).toInt ≤ 1 from ⟨by decide, by decide⟩), (show (σ br 0).toInt * 10000 + (σ br 1).toInt * 1000 + (σ br 2).toInt * 100 + (σ br 3).toInt * 10 + (σ br 4).toInt * 1 ≤ (σ_82 br 0).toInt * 10000 + (σ_82 br 1).toInt * 1000 + (σ_82 br 2).toInt * 100 + (σ_82 br 3).toInt * 10 + (σ_82 br 4).toInt * 1 from (by rw [k_87, k_88, k_83, k_90, k_92]; (first | omega | decide | (simp only [show (0 : Int32).toInt = 0 from by decide]; omega)))), (show (1 : Int32).toInt = 1 → (σ br 0).toInt * 10000 + (σ br 1).toInt * 1000 + (σ br 2).toInt * 100 + (σ br 3).toInt * 10 + (σ br 4).toInt * 1 < (σ_82 br 0).toInt * 10000 + (σ_82 br 1).toInt * 1000 + (σ_82 br 2).toInt * 100 + (σ_82 br 3).toInt * 10 + (σ_82 br 4).toInt * 1 from (fun h => (by rw [k_87, k_88, k_83, k_90, k_92]; (first | omega | (simp only [show (0 : Int32).toInt = 0 from by decide]; omega))))), (show (σ_82 br 0).toInt ≤ (σ bm 0).toInt from (by rw [k_87]; (first | omega | (simp only [show (0 : Int32).toInt = 0 from by decide]; omega)))), (show (σ_82 br 1).toInt ≤ (σ bm 1).toInt from (by rw [k_88]; (first | omega | (simp only [show (0 : Int32).toInt = 0 from by decide]; omega)))), (show (σ_82 br 2).toInt ≤ (σ bm 2).toInt from (by rw [k_83]; (first | omega | (simp only [show (0 : Int32).toInt = 0 from by decide]; omega)))), (show (σ_82 br 3).toInt ≤ (σ bm 3).toInt from (by rw [k_90]; (first | omega | (simp only [show (0 : Int32).toInt = 0 from by decide]; omega)))), (show (σ_82 br 4).toInt ≤ (σ bm 4).toInt from (by rw [k_92]; (first | omega | (simp only [show (0 : Int32).toInt = 0 from by decide]; omega))))⟩⟩, (show TP D cA L T r σ_82 ρ t.heap from by rw [ht]; exact hB.1)⟩, hS.F ht⟩) hS.2.2 dX12_hasNextRow_78
      · skip
        have uc_75 := j_eq c_75
        refine lv_iinc (v := 0) (lv' := [(1, .int 0), (0, .ref h0)]) hx hb dX12_hasNextRow_28 hl (k := 0) rfl (by decide) (by decide) rfl (fun ls hl => ?_)
        refine lv_goto (tgt := 9) hx hb dX12_hasNextRow_31 (by decide) ?_
        refine lv_iload_n hx hb dX12_hasNextRow_9 rfl (lv_at hl 0 rfl) ?_
        refine lv_if_lt (tgt := 34) hx hb dX12_hasNextRow_10 (by decide) (fun c9 => absurd c9 (by decide)) (fun _ => ?_)
        refine lv_aload_n hx hb dX12_hasNextRow_13 rfl (lv_at hl 1 rfl) ?_
        refine t_gk hx hb hts hown hK hB mh0 th0 fq_12_28 hbr mw_6_4 dX12_hasNextRow_14 ?_
        refine lv_iload_n hx hb dX12_hasNextRow_17 rfl (lv_at hl 0 rfl) ?_
        refine t_ai hx hb hK hB mbr tbr ai_75 (fun _ => rfl) (i_in (by decide) (by decide)) dX12_hasNextRow_18 (fun x_93 ex_93 lx_93 ux_93 => ?_)
        have qx_93 : x_93 = (σ br 0) := ex_93.trans rfl
        have qx_93 := qx_93.symm
        subst qx_93
        refine lv_aload_n hx hb dX12_hasNextRow_19 rfl (lv_at hl 1 rfl) ?_
        refine t_gk hx hb hts hown hK hB mh0 th0 fq_12_26 hbm mw_6_2 dX12_hasNextRow_20 ?_
        refine lv_iload_n hx hb dX12_hasNextRow_23 rfl (lv_at hl 0 rfl) ?_
        refine t_ai hx hb hK hB mbm tbm ai_73 (fun _ => rfl) (i_in (by decide) (by decide)) dX12_hasNextRow_24 (fun x_94 ex_94 lx_94 ux_94 => ?_)
        have qx_94 : x_94 = (σ bm 0) := ex_94.trans rfl
        have qx_94 := qx_94.symm
        subst qx_94
        refine lv_icmp_ne (tgt := 34) hx hb dX12_hasNextRow_25 (by decide) (fun c_95 => ?_) (fun c_95 => ?_)
        · skip
          have uc_95 := j_ne c_95
          refine lv_iload_n hx hb dX12_hasNextRow_34 rfl (lv_at hl 0 rfl) ?_
          refine lv_if_ge (tgt := 40) hx hb dX12_hasNextRow_35 (by decide) (fun _ => ?_) (fun c9 => absurd (by decide) c9)
          refine lv_aload_n hx hb dX12_hasNextRow_40 rfl (lv_at hl 1 rfl) ?_
          refine t_gk hx hb hts hown hK hB mh0 th0 fq_12_28 hbr mw_6_4 dX12_hasNextRow_41 ?_
          refine lv_iload_n hx hb dX12_hasNextRow_44 rfl (lv_at hl 0 rfl) ?_
          refine lv_dup2_11 hx hb dX12_hasNextRow_45 rfl rfl ?_
          refine t_ai hx hb hK hB mbr tbr ai_75 (fun _ => rfl) (i_in (by decide) (by decide)) dX12_hasNextRow_46 (fun x_96 ex_96 lx_96 ux_96 => ?_)
          have qx_96 : x_96 = (σ br 0) := ex_96.trans rfl
          have qx_96 := qx_96.symm
          subst qx_96
          refine lv_iconst (v := 1) hx hb dX12_hasNextRow_47 (by decide) ?_
          refine lv_iadd hx hb dX12_hasNextRow_48 ?_
          refine lv_topi (fun x_97 ex_97 => ?_)
          have vx_97 := b_add (rfl : (σ br 0).toInt = _) (by decide : (1 : Int32).toInt = 1) ex_97 (by omega) (by omega)
          refine t_si hx hb hK hLA hB hS mbr tbr ai_75 (i_in (by decide) (by decide)) (by show 0 ≤ _; (first | omega | (subst_vars; omega))) (by show _ ≤ 9; (first | omega | (subst_vars; omega))) (Or.inr (by decide)) dX12_hasNextRow_49 (fun H locs σ_98 eσ_98 hB hS => ?_)
          have k_99 : σ_98 br 0 = x_97 := by rw [eσ_98]; exact up2_same _ _ _ _
          refine lv_iload_n hx hb dX12_hasNextRow_50 rfl (lv_at hl 0 rfl) ?_
          refine lv_iconst (v := 1) hx hb dX12_hasNextRow_51 (by decide) ?_
          refine lv_iadd hx hb dX12_hasNextRow_52 ?_
          refine tp_i (w := 1) (by decide) ?_
          refine lv_istore_n (lv' := [(2, .int 1), (1, .int 0), (0, .ref h0)]) hx hb dX12_hasNextRow_53 rfl hl (by decide) rfl (fun ls hl => ?_)
          refine lv_iload_n hx hb dX12_hasNextRow_54 rfl (lv_at hl 0 rfl) ?_
          refine lv_aload_n hx hb dX12_hasNextRow_55 rfl (lv_at hl 2 rfl) ?_
          refine t_gk hx hb hts hown hK hB mh0 th0 fq_12_20 hb_11 mw_5_236 dX12_hasNextRow_56 ?_
          refine lv_iconst (v := 1) hx hb dX12_hasNextRow_59 (by decide) ?_
          have k_100 : σ_98 b_11 1 = 3 := by rw [eσ_98, up2_nej _ _ (by decide)]; exact ex_12.symm
          refine t_aj hx hb hK hB mb_11 tb_11 ai_70 (i_in (by decide) (by decide)) dX12_hasNextRow_60 (fun x_101 ex_101 lx_101 ux_101 => ?_)
          have qx_101 : x_101 = 3 := ex_101.trans k_100
          clear lx_101 ux_101
          subst qx_101
          refine lv_icmp_ge (tgt := 77) hx hb dX12_hasNextRow_61 (by decide) (fun c9 => absurd c9 (by decide)) (fun _ => ?_)
          refine lv_aload_n hx hb dX12_hasNextRow_64 rfl (lv_at hl 2 rfl) ?_
          refine t_gk hx hb hts hown hK hB mh0 th0 fq_12_28 hbr mw_6_4 dX12_hasNextRow_65 ?_
          refine lv_iload_n hx hb dX12_hasNextRow_68 rfl (lv_at hl 0 rfl) ?_
          refine lv_iconst (v := 0) hx hb dX12_hasNextRow_69 (by decide) ?_
          refine t_si hx hb hK hLA hB hS mbr tbr ai_75 (i_in (by decide) (by decide)) (show 0 ≤ (0 : Int32).toInt by decide) (show (0 : Int32).toInt ≤ 9 by decide) (Or.inr (by decide)) dX12_hasNextRow_70 (fun H locs σ_102 eσ_102 hB hS => ?_)
          have k_103 : σ_102 br 1 = 0 := by rw [eσ_102]; exact up2_same _ _ _ _
          refine lv_iinc (v := 2) (lv' := [(2, .int 2), (1, .int 0), (0, .ref h0)]) hx hb dX12_hasNextRow_71 hl (k := 0) rfl (by decide) (by decide) rfl (fun ls hl => ?_)
          refine lv_goto (tgt := 54) hx hb dX12_hasNextRow_74 (by decide) ?_
          refine lv_iload_n hx hb dX12_hasNextRow_54 rfl (lv_at hl 0 rfl) ?_
          refine lv_aload_n hx hb dX12_hasNextRow_55 rfl (lv_at hl 2 rfl) ?_
          refine t_gk hx hb hts hown hK hB mh0 th0 fq_12_20 hb_11 mw_5_236 dX12_hasNextRow_56 ?_
          refine lv_iconst (v := 1) hx hb dX12_hasNextRow_59 (by decide) ?_
          have k_104 : σ_102 b_11 1 = 3 := by rw [eσ_102, up2_nea _ _ (tg_ne tb_11 tbr (by decide))]; exact k_100
          refine t_aj hx hb hK hB mb_11 tb_11 ai_70 (i_in (by decide) (by decide)) dX12_hasNextRow_60 (fun x_105 ex_105 lx_105 ux_105 => ?_)
          have qx_105 : x_105 = 3 := ex_105.trans k_104
          clear lx_105 ux_105
          subst qx_105
          refine lv_icmp_ge (tgt := 77) hx hb dX12_hasNextRow_61 (by decide) (fun c9 => absurd c9 (by decide)) (fun _ => ?_)
          refine lv_aload_n hx hb dX12_hasNextRow_64 rfl (lv_at hl 2 rfl) ?_
          refine t_gk hx hb hts hown hK hB mh0 th0 fq_12_28 hbr mw_6_4 dX12_hasNextRow_65 ?_
          refine lv_iload_n hx hb dX12_hasNextRow_68 rfl (lv_at hl 0 rfl) ?_
          refine lv_iconst (v := 0) hx hb dX12_hasNextRow_69 (by decide) ?_
          refine t_si hx hb hK hLA hB hS mbr tbr ai_75 (i_in (by decide) (by decide)) (show 0 ≤ (0 : Int32).toInt by decide) (show (0 : Int32).toInt ≤ 9 by decide) (Or.inr (by decide)) dX12_hasNextRow_70 (fun H locs σ_106 eσ_106 hB hS => ?_)
          have k_107 : σ_106 br 2 = 0 := by rw [eσ_106]; exact up2_same _ _ _ _
          refine lv_iinc (v := 3) (lv' := [(2, .int 3), (1, .int 0), (0, .ref h0)]) hx hb dX12_hasNextRow_71 hl (k := 0) rfl (by decide) (by decide) rfl (fun ls hl => ?_)
          refine lv_goto (tgt := 54) hx hb dX12_hasNextRow_74 (by decide) ?_
          refine lv_iload_n hx hb dX12_hasNextRow_54 rfl (lv_at hl 0 rfl) ?_
          refine lv_aload_n hx hb dX12_hasNextRow_55 rfl (lv_at hl 2 rfl) ?_
          refine t_gk hx hb hts hown hK hB mh0 th0 fq_12_20 hb_11 mw_5_236 dX12_hasNextRow_56 ?_
          refine lv_iconst (v := 1) hx hb dX12_hasNextRow_59 (by decide) ?_
          have k_108 : σ_106 b_11 1 = 3 := by rw [eσ_106, up2_nej _ _ (by decide)]; exact k_104
          refine t_aj hx hb hK hB mb_11 tb_11 ai_70 (i_in (by decide) (by decide)) dX12_hasNextRow_60 (fun x_109 ex_109 lx_109 ux_109 => ?_)
          have qx_109 : x_109 = 3 := ex_109.trans k_108
          clear lx_109 ux_109
          subst qx_109
          refine lv_icmp_ge (tgt := 77) hx hb dX12_hasNextRow_61 (by decide) (fun _ => ?_) (fun c9 => absurd (by decide) c9)
          refine lv_iconst (v := 1) hx hb dX12_hasNextRow_77 (by decide) ?_
          have k_110 : σ_102 br 0 = x_97 := by rw [eσ_102, up2_nej _ _ (by decide)]; exact k_99
          have k_111 : σ_106 br 0 = x_97 := by rw [eσ_106, up2_nej _ _ (by decide)]; exact k_110
          have k_112 : σ_106 br 1 = 0 := by rw [eσ_106, up2_nej _ _ (by decide)]; exact k_103
          have k_113 : σ_98 br 3 = (σ br 3) := by rw [eσ_98, up2_nej _ _ (by decide)]
          have k_114 : σ_102 br 3 = (σ br 3) := by rw [eσ_102, up2_nej _ _ (by decide)]; exact k_113
          have k_115 : σ_106 br 3 = (σ br 3) := by rw [eσ_106, up2_nej _ _ (by decide)]; exact k_114
          have k_116 : σ_98 br 4 = (σ br 4) := by rw [eσ_98, up2_nej _ _ (by decide)]
          have k_117 : σ_102 br 4 = (σ br 4) := by rw [eσ_102, up2_nej _ _ (by decide)]; exact k_116
          have k_118 : σ_106 br 4 = (σ br 4) := by rw [eσ_106, up2_nej _ _ (by decide)]; exact k_117
          exact W.zret (v := 1) hx hb hr rfl (fun t ht hW => ⟨⟨1, (σ_106, ρ), rfl, ⟨hB.2.1, hB.2.2, ⟨(show 0 ≤ (1 : Int32).toInt ∧ (1 : Int32).toInt ≤ 1 from ⟨by decide, by decide⟩), (show (σ br 0).toInt * 10000 + (σ br 1).toInt * 1000 + (σ br 2).toInt * 100 + (σ br 3).toInt * 10 + (σ br 4).toInt * 1 ≤ (σ_106 br 0).toInt * 10000 + (σ_106 br 1).toInt * 1000 + (σ_106 br 2).toInt * 100 + (σ_106 br 3).toInt * 10 + (σ_106 br 4).toInt * 1 from (by rw [k_111, k_112, k_107, k_115, k_118]; (first | omega | decide | (simp only [show (0 : Int32).toInt = 0 from by decide]; omega)))), (show (1 : Int32).toInt = 1 → (σ br 0).toInt * 10000 + (σ br 1).toInt * 1000 + (σ br 2).toInt * 100 + (σ br 3).toInt * 10 + (σ br 4).toInt * 1 < (σ_106 br 0).toInt * 10000 + (σ_106 br 1).toInt * 1000 + (σ_106 br 2).toInt * 100 + (σ_106 br 3).toInt * 10 + (σ_106 br 4).toInt * 1 from (fun h => (by rw [k_111, k_112, k_107, k_115, k_118]; (first | omega | (simp only [show (0 : Int32).toInt = 0 from by decide]; omega))))), (show (σ_106 br 0).toInt ≤ (σ bm 0).toInt from (by rw [k_111]; (first | omega | (simp only [show (0 : Int32).toInt = 0 from by decide]; omega)))), (show (σ_106 br 1).toInt ≤ (σ bm 1).toInt from (by rw [k_112]; (first | omega | (simp only [show (0 : Int32).toInt = 0 from by decide]; omega)))), (show (σ_106 br 2).toInt ≤ (σ bm 2).toInt from (by rw [k_107]; (first | omega | (simp only [show (0 : Int32).toInt = 0 from by decide]; omega)))), (show (σ_106 br 3).toInt ≤ (σ bm 3).toInt from (by rw [k_115]; (first | omega | (simp only [show (0 : Int32).toInt = 0 from by decide]; omega)))), (show (σ_106 br 4).toInt ≤ (σ bm 4).toInt from (by rw [k_118]; (first | omega | (simp only [show (0 : Int32).toInt = 0 from by decide]; omega))))⟩⟩, (show TP D cA L T r σ_106 ρ t.heap from by rw [ht]; exact hB.1)⟩, hS.F ht⟩) hS.2.2 dX12_hasNextRow_78
        · skip
          have uc_95 := j_eq c_95
          refine lv_iinc (v := (-1)) (lv' := [(1, .int (-1)), (0, .ref h0)]) hx hb dX12_hasNextRow_28 hl (k := 0) rfl (by decide) (by decide) rfl (fun ls hl => ?_)
          refine lv_goto (tgt := 9) hx hb dX12_hasNextRow_31 (by decide) ?_
          refine lv_iload_n hx hb dX12_hasNextRow_9 rfl (lv_at hl 0 rfl) ?_
          refine lv_if_lt (tgt := 34) hx hb dX12_hasNextRow_10 (by decide) (fun _ => ?_) (fun c9 => absurd (by decide) c9)
          refine lv_iload_n hx hb dX12_hasNextRow_34 rfl (lv_at hl 0 rfl) ?_
          refine lv_if_ge (tgt := 40) hx hb dX12_hasNextRow_35 (by decide) (fun c9 => absurd c9 (by decide)) (fun _ => ?_)
          refine lv_iconst (v := 0) hx hb dX12_hasNextRow_38 (by decide) ?_
          exact W.zret (v := 0) hx hb hr rfl (fun t ht hW => ⟨⟨0, (σ, ρ), rfl, ⟨hB.2.1, hB.2.2, ⟨(show 0 ≤ (0 : Int32).toInt ∧ (0 : Int32).toInt ≤ 1 from ⟨by decide, by decide⟩), (show (σ br 0).toInt * 10000 + (σ br 1).toInt * 1000 + (σ br 2).toInt * 100 + (σ br 3).toInt * 10 + (σ br 4).toInt * 1 ≤ (σ br 0).toInt * 10000 + (σ br 1).toInt * 1000 + (σ br 2).toInt * 100 + (σ br 3).toInt * 10 + (σ br 4).toInt * 1 from (by (first | omega | decide | (simp only [show (0 : Int32).toInt = 0 from by decide]; omega)))), (show (0 : Int32).toInt = 1 → (σ br 0).toInt * 10000 + (σ br 1).toInt * 1000 + (σ br 2).toInt * 100 + (σ br 3).toInt * 10 + (σ br 4).toInt * 1 < (σ br 0).toInt * 10000 + (σ br 1).toInt * 1000 + (σ br 2).toInt * 100 + (σ br 3).toInt * 10 + (σ br 4).toInt * 1 from (fun h => absurd h (by decide))), (show (σ br 0).toInt ≤ (σ bm 0).toInt from (by (first | omega | (simp only [show (0 : Int32).toInt = 0 from by decide]; omega)))), (show (σ br 1).toInt ≤ (σ bm 1).toInt from (by (first | omega | (simp only [show (0 : Int32).toInt = 0 from by decide]; omega)))), (show (σ br 2).toInt ≤ (σ bm 2).toInt from (by (first | omega | (simp only [show (0 : Int32).toInt = 0 from by decide]; omega)))), (show (σ br 3).toInt ≤ (σ bm 3).toInt from (by (first | omega | (simp only [show (0 : Int32).toInt = 0 from by decide]; omega)))), (show (σ br 4).toInt ≤ (σ bm 4).toInt from (by (first | omega | (simp only [show (0 : Int32).toInt = 0 from by decide]; omega))))⟩⟩, (show TP D cA L T r σ ρ t.heap from by rw [ht]; exact hB.1)⟩, hS.F ht⟩) hS.2.2 dX12_hasNextRow_39
  · skip
    have c_13x : x_12 = 4 := i_is (by decide) c_13j
    subst c_13x
    refine lv_iconst (v := 1) hx hb dX12_hasNextRow_6 (by decide) ?_
    refine lv_isub hx hb dX12_hasNextRow_7 ?_
    refine tp_i (w := 3) (by decide) ?_
    refine lv_istore_n (lv' := [(1, .int 3), (0, .ref h0)]) hx hb dX12_hasNextRow_8 rfl hl (by decide) rfl (fun ls hl => ?_)
    refine lv_iload_n hx hb dX12_hasNextRow_9 rfl (lv_at hl 0 rfl) ?_
    refine lv_if_lt (tgt := 34) hx hb dX12_hasNextRow_10 (by decide) (fun c9 => absurd c9 (by decide)) (fun _ => ?_)
    refine lv_aload_n hx hb dX12_hasNextRow_13 rfl (lv_at hl 1 rfl) ?_
    refine t_gk hx hb hts hown hK hB mh0 th0 fq_12_28 hbr mw_6_4 dX12_hasNextRow_14 ?_
    refine lv_iload_n hx hb dX12_hasNextRow_17 rfl (lv_at hl 0 rfl) ?_
    refine t_ai hx hb hK hB mbr tbr ai_75 (fun _ => rfl) (i_in (by decide) (by decide)) dX12_hasNextRow_18 (fun x_119 ex_119 lx_119 ux_119 => ?_)
    have qx_119 : x_119 = (σ br 3) := ex_119.trans rfl
    have qx_119 := qx_119.symm
    subst qx_119
    refine lv_aload_n hx hb dX12_hasNextRow_19 rfl (lv_at hl 1 rfl) ?_
    refine t_gk hx hb hts hown hK hB mh0 th0 fq_12_26 hbm mw_6_2 dX12_hasNextRow_20 ?_
    refine lv_iload_n hx hb dX12_hasNextRow_23 rfl (lv_at hl 0 rfl) ?_
    refine t_ai hx hb hK hB mbm tbm ai_73 (fun _ => rfl) (i_in (by decide) (by decide)) dX12_hasNextRow_24 (fun x_120 ex_120 lx_120 ux_120 => ?_)
    have qx_120 : x_120 = (σ bm 3) := ex_120.trans rfl
    have qx_120 := qx_120.symm
    subst qx_120
    refine lv_icmp_ne (tgt := 34) hx hb dX12_hasNextRow_25 (by decide) (fun c_121 => ?_) (fun c_121 => ?_)
    · skip
      have uc_121 := j_ne c_121
      refine lv_iload_n hx hb dX12_hasNextRow_34 rfl (lv_at hl 0 rfl) ?_
      refine lv_if_ge (tgt := 40) hx hb dX12_hasNextRow_35 (by decide) (fun _ => ?_) (fun c9 => absurd (by decide) c9)
      refine lv_aload_n hx hb dX12_hasNextRow_40 rfl (lv_at hl 1 rfl) ?_
      refine t_gk hx hb hts hown hK hB mh0 th0 fq_12_28 hbr mw_6_4 dX12_hasNextRow_41 ?_
      refine lv_iload_n hx hb dX12_hasNextRow_44 rfl (lv_at hl 0 rfl) ?_
      refine lv_dup2_11 hx hb dX12_hasNextRow_45 rfl rfl ?_
      refine t_ai hx hb hK hB mbr tbr ai_75 (fun _ => rfl) (i_in (by decide) (by decide)) dX12_hasNextRow_46 (fun x_122 ex_122 lx_122 ux_122 => ?_)
      have qx_122 : x_122 = (σ br 3) := ex_122.trans rfl
      have qx_122 := qx_122.symm
      subst qx_122
      refine lv_iconst (v := 1) hx hb dX12_hasNextRow_47 (by decide) ?_
      refine lv_iadd hx hb dX12_hasNextRow_48 ?_
      refine lv_topi (fun x_123 ex_123 => ?_)
      have vx_123 := b_add (rfl : (σ br 3).toInt = _) (by decide : (1 : Int32).toInt = 1) ex_123 (by omega) (by omega)
      refine t_si hx hb hK hLA hB hS mbr tbr ai_75 (i_in (by decide) (by decide)) (by show 0 ≤ _; (first | omega | (subst_vars; omega))) (by show _ ≤ 9; (first | omega | (subst_vars; omega))) (Or.inr (by decide)) dX12_hasNextRow_49 (fun H locs σ_124 eσ_124 hB hS => ?_)
      have k_125 : σ_124 br 3 = x_123 := by rw [eσ_124]; exact up2_same _ _ _ _
      refine lv_iload_n hx hb dX12_hasNextRow_50 rfl (lv_at hl 0 rfl) ?_
      refine lv_iconst (v := 1) hx hb dX12_hasNextRow_51 (by decide) ?_
      refine lv_iadd hx hb dX12_hasNextRow_52 ?_
      refine tp_i (w := 4) (by decide) ?_
      refine lv_istore_n (lv' := [(2, .int 4), (1, .int 3), (0, .ref h0)]) hx hb dX12_hasNextRow_53 rfl hl (by decide) rfl (fun ls hl => ?_)
      refine lv_iload_n hx hb dX12_hasNextRow_54 rfl (lv_at hl 0 rfl) ?_
      refine lv_aload_n hx hb dX12_hasNextRow_55 rfl (lv_at hl 2 rfl) ?_
      refine t_gk hx hb hts hown hK hB mh0 th0 fq_12_20 hb_11 mw_5_236 dX12_hasNextRow_56 ?_
      refine lv_iconst (v := 1) hx hb dX12_hasNextRow_59 (by decide) ?_
      have k_126 : σ_124 b_11 1 = 4 := by rw [eσ_124, up2_nej _ _ (by decide)]; exact ex_12.symm
      refine t_aj hx hb hK hB mb_11 tb_11 ai_70 (i_in (by decide) (by decide)) dX12_hasNextRow_60 (fun x_127 ex_127 lx_127 ux_127 => ?_)
      have qx_127 : x_127 = 4 := ex_127.trans k_126
      clear lx_127 ux_127
      subst qx_127
      refine lv_icmp_ge (tgt := 77) hx hb dX12_hasNextRow_61 (by decide) (fun _ => ?_) (fun c9 => absurd (by decide) c9)
      refine lv_iconst (v := 1) hx hb dX12_hasNextRow_77 (by decide) ?_
      have k_128 : σ_124 br 0 = (σ br 0) := by rw [eσ_124, up2_nej _ _ (by decide)]
      have k_129 : σ_124 br 1 = (σ br 1) := by rw [eσ_124, up2_nej _ _ (by decide)]
      have k_130 : σ_124 br 2 = (σ br 2) := by rw [eσ_124, up2_nej _ _ (by decide)]
      have k_131 : σ_124 br 4 = (σ br 4) := by rw [eσ_124, up2_nej _ _ (by decide)]
      exact W.zret (v := 1) hx hb hr rfl (fun t ht hW => ⟨⟨1, (σ_124, ρ), rfl, ⟨hB.2.1, hB.2.2, ⟨(show 0 ≤ (1 : Int32).toInt ∧ (1 : Int32).toInt ≤ 1 from ⟨by decide, by decide⟩), (show (σ br 0).toInt * 10000 + (σ br 1).toInt * 1000 + (σ br 2).toInt * 100 + (σ br 3).toInt * 10 + (σ br 4).toInt * 1 ≤ (σ_124 br 0).toInt * 10000 + (σ_124 br 1).toInt * 1000 + (σ_124 br 2).toInt * 100 + (σ_124 br 3).toInt * 10 + (σ_124 br 4).toInt * 1 from (by rw [k_128, k_129, k_130, k_125, k_131]; (first | omega | decide | (simp only [show (0 : Int32).toInt = 0 from by decide]; omega)))), (show (1 : Int32).toInt = 1 → (σ br 0).toInt * 10000 + (σ br 1).toInt * 1000 + (σ br 2).toInt * 100 + (σ br 3).toInt * 10 + (σ br 4).toInt * 1 < (σ_124 br 0).toInt * 10000 + (σ_124 br 1).toInt * 1000 + (σ_124 br 2).toInt * 100 + (σ_124 br 3).toInt * 10 + (σ_124 br 4).toInt * 1 from (fun h => (by rw [k_128, k_129, k_130, k_125, k_131]; (first | omega | (simp only [show (0 : Int32).toInt = 0 from by decide]; omega))))), (show (σ_124 br 0).toInt ≤ (σ bm 0).toInt from (by rw [k_128]; (first | omega | (simp only [show (0 : Int32).toInt = 0 from by decide]; omega)))), (show (σ_124 br 1).toInt ≤ (σ bm 1).toInt from (by rw [k_129]; (first | omega | (simp only [show (0 : Int32).toInt = 0 from by decide]; omega)))), (show (σ_124 br 2).toInt ≤ (σ bm 2).toInt from (by rw [k_130]; (first | omega | (simp only [show (0 : Int32).toInt = 0 from by decide]; omega)))), (show (σ_124 br 3).toInt ≤ (σ bm 3).toInt from (by rw [k_125]; (first | omega | (simp only [show (0 : Int32).toInt = 0 from by decide]; omega)))), (show (σ_124 br 4).toInt ≤ (σ bm 4).toInt from (by rw [k_131]; (first | omega | (simp only [show (0 : Int32).toInt = 0 from by decide]; omega))))⟩⟩, (show TP D cA L T r σ_124 ρ t.heap from by rw [ht]; exact hB.1)⟩, hS.F ht⟩) hS.2.2 dX12_hasNextRow_78
    · skip
      have uc_121 := j_eq c_121
      refine lv_iinc (v := 2) (lv' := [(1, .int 2), (0, .ref h0)]) hx hb dX12_hasNextRow_28 hl (k := 0) rfl (by decide) (by decide) rfl (fun ls hl => ?_)
      refine lv_goto (tgt := 9) hx hb dX12_hasNextRow_31 (by decide) ?_
      refine lv_iload_n hx hb dX12_hasNextRow_9 rfl (lv_at hl 0 rfl) ?_
      refine lv_if_lt (tgt := 34) hx hb dX12_hasNextRow_10 (by decide) (fun c9 => absurd c9 (by decide)) (fun _ => ?_)
      refine lv_aload_n hx hb dX12_hasNextRow_13 rfl (lv_at hl 1 rfl) ?_
      refine t_gk hx hb hts hown hK hB mh0 th0 fq_12_28 hbr mw_6_4 dX12_hasNextRow_14 ?_
      refine lv_iload_n hx hb dX12_hasNextRow_17 rfl (lv_at hl 0 rfl) ?_
      refine t_ai hx hb hK hB mbr tbr ai_75 (fun _ => rfl) (i_in (by decide) (by decide)) dX12_hasNextRow_18 (fun x_132 ex_132 lx_132 ux_132 => ?_)
      have qx_132 : x_132 = (σ br 2) := ex_132.trans rfl
      have qx_132 := qx_132.symm
      subst qx_132
      refine lv_aload_n hx hb dX12_hasNextRow_19 rfl (lv_at hl 1 rfl) ?_
      refine t_gk hx hb hts hown hK hB mh0 th0 fq_12_26 hbm mw_6_2 dX12_hasNextRow_20 ?_
      refine lv_iload_n hx hb dX12_hasNextRow_23 rfl (lv_at hl 0 rfl) ?_
      refine t_ai hx hb hK hB mbm tbm ai_73 (fun _ => rfl) (i_in (by decide) (by decide)) dX12_hasNextRow_24 (fun x_133 ex_133 lx_133 ux_133 => ?_)
      have qx_133 : x_133 = (σ bm 2) := ex_133.trans rfl
      have qx_133 := qx_133.symm
      subst qx_133
      refine lv_icmp_ne (tgt := 34) hx hb dX12_hasNextRow_25 (by decide) (fun c_134 => ?_) (fun c_134 => ?_)
      · skip
        have uc_134 := j_ne c_134
        refine lv_iload_n hx hb dX12_hasNextRow_34 rfl (lv_at hl 0 rfl) ?_
        refine lv_if_ge (tgt := 40) hx hb dX12_hasNextRow_35 (by decide) (fun _ => ?_) (fun c9 => absurd (by decide) c9)
        refine lv_aload_n hx hb dX12_hasNextRow_40 rfl (lv_at hl 1 rfl) ?_
        refine t_gk hx hb hts hown hK hB mh0 th0 fq_12_28 hbr mw_6_4 dX12_hasNextRow_41 ?_
        refine lv_iload_n hx hb dX12_hasNextRow_44 rfl (lv_at hl 0 rfl) ?_
        refine lv_dup2_11 hx hb dX12_hasNextRow_45 rfl rfl ?_
        refine t_ai hx hb hK hB mbr tbr ai_75 (fun _ => rfl) (i_in (by decide) (by decide)) dX12_hasNextRow_46 (fun x_135 ex_135 lx_135 ux_135 => ?_)
        have qx_135 : x_135 = (σ br 2) := ex_135.trans rfl
        have qx_135 := qx_135.symm
        subst qx_135
        refine lv_iconst (v := 1) hx hb dX12_hasNextRow_47 (by decide) ?_
        refine lv_iadd hx hb dX12_hasNextRow_48 ?_
        refine lv_topi (fun x_136 ex_136 => ?_)
        have vx_136 := b_add (rfl : (σ br 2).toInt = _) (by decide : (1 : Int32).toInt = 1) ex_136 (by omega) (by omega)
        refine t_si hx hb hK hLA hB hS mbr tbr ai_75 (i_in (by decide) (by decide)) (by show 0 ≤ _; (first | omega | (subst_vars; omega))) (by show _ ≤ 9; (first | omega | (subst_vars; omega))) (Or.inr (by decide)) dX12_hasNextRow_49 (fun H locs σ_137 eσ_137 hB hS => ?_)
        have k_138 : σ_137 br 2 = x_136 := by rw [eσ_137]; exact up2_same _ _ _ _
        refine lv_iload_n hx hb dX12_hasNextRow_50 rfl (lv_at hl 0 rfl) ?_
        refine lv_iconst (v := 1) hx hb dX12_hasNextRow_51 (by decide) ?_
        refine lv_iadd hx hb dX12_hasNextRow_52 ?_
        refine tp_i (w := 3) (by decide) ?_
        refine lv_istore_n (lv' := [(2, .int 3), (1, .int 2), (0, .ref h0)]) hx hb dX12_hasNextRow_53 rfl hl (by decide) rfl (fun ls hl => ?_)
        refine lv_iload_n hx hb dX12_hasNextRow_54 rfl (lv_at hl 0 rfl) ?_
        refine lv_aload_n hx hb dX12_hasNextRow_55 rfl (lv_at hl 2 rfl) ?_
        refine t_gk hx hb hts hown hK hB mh0 th0 fq_12_20 hb_11 mw_5_236 dX12_hasNextRow_56 ?_
        refine lv_iconst (v := 1) hx hb dX12_hasNextRow_59 (by decide) ?_
        have k_139 : σ_137 b_11 1 = 4 := by rw [eσ_137, up2_nej _ _ (by decide)]; exact ex_12.symm
        refine t_aj hx hb hK hB mb_11 tb_11 ai_70 (i_in (by decide) (by decide)) dX12_hasNextRow_60 (fun x_140 ex_140 lx_140 ux_140 => ?_)
        have qx_140 : x_140 = 4 := ex_140.trans k_139
        clear lx_140 ux_140
        subst qx_140
        refine lv_icmp_ge (tgt := 77) hx hb dX12_hasNextRow_61 (by decide) (fun c9 => absurd c9 (by decide)) (fun _ => ?_)
        refine lv_aload_n hx hb dX12_hasNextRow_64 rfl (lv_at hl 2 rfl) ?_
        refine t_gk hx hb hts hown hK hB mh0 th0 fq_12_28 hbr mw_6_4 dX12_hasNextRow_65 ?_
        refine lv_iload_n hx hb dX12_hasNextRow_68 rfl (lv_at hl 0 rfl) ?_
        refine lv_iconst (v := 0) hx hb dX12_hasNextRow_69 (by decide) ?_
        refine t_si hx hb hK hLA hB hS mbr tbr ai_75 (i_in (by decide) (by decide)) (show 0 ≤ (0 : Int32).toInt by decide) (show (0 : Int32).toInt ≤ 9 by decide) (Or.inr (by decide)) dX12_hasNextRow_70 (fun H locs σ_141 eσ_141 hB hS => ?_)
        have k_142 : σ_141 br 3 = 0 := by rw [eσ_141]; exact up2_same _ _ _ _
        refine lv_iinc (v := 4) (lv' := [(2, .int 4), (1, .int 2), (0, .ref h0)]) hx hb dX12_hasNextRow_71 hl (k := 0) rfl (by decide) (by decide) rfl (fun ls hl => ?_)
        refine lv_goto (tgt := 54) hx hb dX12_hasNextRow_74 (by decide) ?_
        refine lv_iload_n hx hb dX12_hasNextRow_54 rfl (lv_at hl 0 rfl) ?_
        refine lv_aload_n hx hb dX12_hasNextRow_55 rfl (lv_at hl 2 rfl) ?_
        refine t_gk hx hb hts hown hK hB mh0 th0 fq_12_20 hb_11 mw_5_236 dX12_hasNextRow_56 ?_
        refine lv_iconst (v := 1) hx hb dX12_hasNextRow_59 (by decide) ?_
        have k_143 : σ_141 b_11 1 = 4 := by rw [eσ_141, up2_nej _ _ (by decide)]; exact k_139
        refine t_aj hx hb hK hB mb_11 tb_11 ai_70 (i_in (by decide) (by decide)) dX12_hasNextRow_60 (fun x_144 ex_144 lx_144 ux_144 => ?_)
        have qx_144 : x_144 = 4 := ex_144.trans k_143
        clear lx_144 ux_144
        subst qx_144
        refine lv_icmp_ge (tgt := 77) hx hb dX12_hasNextRow_61 (by decide) (fun _ => ?_) (fun c9 => absurd (by decide) c9)
        refine lv_iconst (v := 1) hx hb dX12_hasNextRow_77 (by decide) ?_
        have k_145 : σ_137 br 0 = (σ br 0) := by rw [eσ_137, up2_nej _ _ (by decide)]
        have k_146 : σ_141 br 0 = (σ br 0) := by rw [eσ_141, up2_nej _ _ (by decide)]; exact k_145
        have k_147 : σ_137 br 1 = (σ br 1) := by rw [eσ_137, up2_nej _ _ (by decide)]
        have k_148 : σ_141 br 1 = (σ br 1) := by rw [eσ_141, up2_nej _ _ (by decide)]; exact k_147
        have k_149 : σ_141 br 2 = x_136 := by rw [eσ_141, up2_nej _ _ (by decide)]; exact k_138
        have k_150 : σ_137 br 4 = (σ br 4) := by rw [eσ_137, up2_nej _ _ (by decide)]
        have k_151 : σ_141 br 4 = (σ br 4) := by rw [eσ_141, up2_nej _ _ (by decide)]; exact k_150
        exact W.zret (v := 1) hx hb hr rfl (fun t ht hW => ⟨⟨1, (σ_141, ρ), rfl, ⟨hB.2.1, hB.2.2, ⟨(show 0 ≤ (1 : Int32).toInt ∧ (1 : Int32).toInt ≤ 1 from ⟨by decide, by decide⟩), (show (σ br 0).toInt * 10000 + (σ br 1).toInt * 1000 + (σ br 2).toInt * 100 + (σ br 3).toInt * 10 + (σ br 4).toInt * 1 ≤ (σ_141 br 0).toInt * 10000 + (σ_141 br 1).toInt * 1000 + (σ_141 br 2).toInt * 100 + (σ_141 br 3).toInt * 10 + (σ_141 br 4).toInt * 1 from (by rw [k_146, k_148, k_149, k_142, k_151]; (first | omega | decide | (simp only [show (0 : Int32).toInt = 0 from by decide]; omega)))), (show (1 : Int32).toInt = 1 → (σ br 0).toInt * 10000 + (σ br 1).toInt * 1000 + (σ br 2).toInt * 100 + (σ br 3).toInt * 10 + (σ br 4).toInt * 1 < (σ_141 br 0).toInt * 10000 + (σ_141 br 1).toInt * 1000 + (σ_141 br 2).toInt * 100 + (σ_141 br 3).toInt * 10 + (σ_141 br 4).toInt * 1 from (fun h => (by rw [k_146, k_148, k_149, k_142, k_151]; (first | omega | (simp only [show (0 : Int32).toInt = 0 from by decide]; omega))))), (show (σ_141 br 0).toInt ≤ (σ bm 0).toInt from (by rw [k_146]; (first | omega | (simp only [show (0 : Int32).toInt = 0 from by decide]; omega)))), (show (σ_141 br 1).toInt ≤ (σ bm 1).toInt from (by rw [k_148]; (first | omega | (simp only [show (0 : Int32).toInt = 0 from by decide]; omega)))), (show (σ_141 br 2).toInt ≤ (σ bm 2).toInt from (by rw [k_149]; (first | omega | (simp only [show (0 : Int32).toInt = 0 from by decide]; omega)))), (show (σ_141 br 3).toInt ≤ (σ bm 3).toInt from (by rw [k_142]; (first | omega | (simp only [show (0 : Int32).toInt = 0 from by decide]; omega)))), (show (σ_141 br 4).toInt ≤ (σ bm 4).toInt from (by rw [k_151]; (first | omega | (simp only [show (0 : Int32).toInt = 0 from by decide]; omega))))⟩⟩, (show TP D cA L T r σ_141 ρ t.heap from by rw [ht]; exact hB.1)⟩, hS.F ht⟩) hS.2.2 dX12_hasNextRow_78
      · skip
        have uc_134 := j_eq c_134
        refine lv_iinc (v := 1) (lv' := [(1, .int 1), (0, .ref h0)]) hx hb dX12_hasNextRow_28 hl (k := 0) rfl (by decide) (by decide) rfl (fun ls hl => ?_)
        refine lv_goto (tgt := 9) hx hb dX12_hasNextRow_31 (by decide) ?_
        refine lv_iload_n hx hb dX12_hasNextRow_9 rfl (lv_at hl 0 rfl) ?_
        refine lv_if_lt (tgt := 34) hx hb dX12_hasNextRow_10 (by decide) (fun c9 => absurd c9 (by decide)) (fun _ => ?_)
        refine lv_aload_n hx hb dX12_hasNextRow_13 rfl (lv_at hl 1 rfl) ?_
        refine t_gk hx hb hts hown hK hB mh0 th0 fq_12_28 hbr mw_6_4 dX12_hasNextRow_14 ?_
        refine lv_iload_n hx hb dX12_hasNextRow_17 rfl (lv_at hl 0 rfl) ?_
        refine t_ai hx hb hK hB mbr tbr ai_75 (fun _ => rfl) (i_in (by decide) (by decide)) dX12_hasNextRow_18 (fun x_152 ex_152 lx_152 ux_152 => ?_)
        have qx_152 : x_152 = (σ br 1) := ex_152.trans rfl
        have qx_152 := qx_152.symm
        subst qx_152
        refine lv_aload_n hx hb dX12_hasNextRow_19 rfl (lv_at hl 1 rfl) ?_
        refine t_gk hx hb hts hown hK hB mh0 th0 fq_12_26 hbm mw_6_2 dX12_hasNextRow_20 ?_
        refine lv_iload_n hx hb dX12_hasNextRow_23 rfl (lv_at hl 0 rfl) ?_
        refine t_ai hx hb hK hB mbm tbm ai_73 (fun _ => rfl) (i_in (by decide) (by decide)) dX12_hasNextRow_24 (fun x_153 ex_153 lx_153 ux_153 => ?_)
        have qx_153 : x_153 = (σ bm 1) := ex_153.trans rfl
        have qx_153 := qx_153.symm
        subst qx_153
        refine lv_icmp_ne (tgt := 34) hx hb dX12_hasNextRow_25 (by decide) (fun c_154 => ?_) (fun c_154 => ?_)
        · skip
          have uc_154 := j_ne c_154
          refine lv_iload_n hx hb dX12_hasNextRow_34 rfl (lv_at hl 0 rfl) ?_
          refine lv_if_ge (tgt := 40) hx hb dX12_hasNextRow_35 (by decide) (fun _ => ?_) (fun c9 => absurd (by decide) c9)
          refine lv_aload_n hx hb dX12_hasNextRow_40 rfl (lv_at hl 1 rfl) ?_
          refine t_gk hx hb hts hown hK hB mh0 th0 fq_12_28 hbr mw_6_4 dX12_hasNextRow_41 ?_
          refine lv_iload_n hx hb dX12_hasNextRow_44 rfl (lv_at hl 0 rfl) ?_
          refine lv_dup2_11 hx hb dX12_hasNextRow_45 rfl rfl ?_
          refine t_ai hx hb hK hB mbr tbr ai_75 (fun _ => rfl) (i_in (by decide) (by decide)) dX12_hasNextRow_46 (fun x_155 ex_155 lx_155 ux_155 => ?_)
          have qx_155 : x_155 = (σ br 1) := ex_155.trans rfl
          have qx_155 := qx_155.symm
          subst qx_155
          refine lv_iconst (v := 1) hx hb dX12_hasNextRow_47 (by decide) ?_
          refine lv_iadd hx hb dX12_hasNextRow_48 ?_
          refine lv_topi (fun x_156 ex_156 => ?_)
          have vx_156 := b_add (rfl : (σ br 1).toInt = _) (by decide : (1 : Int32).toInt = 1) ex_156 (by omega) (by omega)
          refine t_si hx hb hK hLA hB hS mbr tbr ai_75 (i_in (by decide) (by decide)) (by show 0 ≤ _; (first | omega | (subst_vars; omega))) (by show _ ≤ 9; (first | omega | (subst_vars; omega))) (Or.inr (by decide)) dX12_hasNextRow_49 (fun H locs σ_157 eσ_157 hB hS => ?_)
          have k_158 : σ_157 br 1 = x_156 := by rw [eσ_157]; exact up2_same _ _ _ _
          refine lv_iload_n hx hb dX12_hasNextRow_50 rfl (lv_at hl 0 rfl) ?_
          refine lv_iconst (v := 1) hx hb dX12_hasNextRow_51 (by decide) ?_
          refine lv_iadd hx hb dX12_hasNextRow_52 ?_
          refine tp_i (w := 2) (by decide) ?_
          refine lv_istore_n (lv' := [(2, .int 2), (1, .int 1), (0, .ref h0)]) hx hb dX12_hasNextRow_53 rfl hl (by decide) rfl (fun ls hl => ?_)
          refine lv_iload_n hx hb dX12_hasNextRow_54 rfl (lv_at hl 0 rfl) ?_
          refine lv_aload_n hx hb dX12_hasNextRow_55 rfl (lv_at hl 2 rfl) ?_
          refine t_gk hx hb hts hown hK hB mh0 th0 fq_12_20 hb_11 mw_5_236 dX12_hasNextRow_56 ?_
          refine lv_iconst (v := 1) hx hb dX12_hasNextRow_59 (by decide) ?_
          have k_159 : σ_157 b_11 1 = 4 := by rw [eσ_157, up2_nea _ _ (tg_ne tb_11 tbr (by decide))]; exact ex_12.symm
          refine t_aj hx hb hK hB mb_11 tb_11 ai_70 (i_in (by decide) (by decide)) dX12_hasNextRow_60 (fun x_160 ex_160 lx_160 ux_160 => ?_)
          have qx_160 : x_160 = 4 := ex_160.trans k_159
          clear lx_160 ux_160
          subst qx_160
          refine lv_icmp_ge (tgt := 77) hx hb dX12_hasNextRow_61 (by decide) (fun c9 => absurd c9 (by decide)) (fun _ => ?_)
          refine lv_aload_n hx hb dX12_hasNextRow_64 rfl (lv_at hl 2 rfl) ?_
          refine t_gk hx hb hts hown hK hB mh0 th0 fq_12_28 hbr mw_6_4 dX12_hasNextRow_65 ?_
          refine lv_iload_n hx hb dX12_hasNextRow_68 rfl (lv_at hl 0 rfl) ?_
          refine lv_iconst (v := 0) hx hb dX12_hasNextRow_69 (by decide) ?_
          refine t_si hx hb hK hLA hB hS mbr tbr ai_75 (i_in (by decide) (by decide)) (show 0 ≤ (0 : Int32).toInt by decide) (show (0 : Int32).toInt ≤ 9 by decide) (Or.inr (by decide)) dX12_hasNextRow_70 (fun H locs σ_161 eσ_161 hB hS => ?_)
          have k_162 : σ_161 br 2 = 0 := by rw [eσ_161]; exact up2_same _ _ _ _
          refine lv_iinc (v := 3) (lv' := [(2, .int 3), (1, .int 1), (0, .ref h0)]) hx hb dX12_hasNextRow_71 hl (k := 0) rfl (by decide) (by decide) rfl (fun ls hl => ?_)
          refine lv_goto (tgt := 54) hx hb dX12_hasNextRow_74 (by decide) ?_
          refine lv_iload_n hx hb dX12_hasNextRow_54 rfl (lv_at hl 0 rfl) ?_
          refine lv_aload_n hx hb dX12_hasNextRow_55 rfl (lv_at hl 2 rfl) ?_
          refine t_gk hx hb hts hown hK hB mh0 th0 fq_12_20 hb_11 mw_5_236 dX12_hasNextRow_56 ?_
          refine lv_iconst (v := 1) hx hb dX12_hasNextRow_59 (by decide) ?_
          have k_163 : σ_161 b_11 1 = 4 := by rw [eσ_161, up2_nej _ _ (by decide)]; exact k_159
          refine t_aj hx hb hK hB mb_11 tb_11 ai_70 (i_in (by decide) (by decide)) dX12_hasNextRow_60 (fun x_164 ex_164 lx_164 ux_164 => ?_)
          have qx_164 : x_164 = 4 := ex_164.trans k_163
          clear lx_164 ux_164
          subst qx_164
          refine lv_icmp_ge (tgt := 77) hx hb dX12_hasNextRow_61 (by decide) (fun c9 => absurd c9 (by decide)) (fun _ => ?_)
          refine lv_aload_n hx hb dX12_hasNextRow_64 rfl (lv_at hl 2 rfl) ?_
          refine t_gk hx hb hts hown hK hB mh0 th0 fq_12_28 hbr mw_6_4 dX12_hasNextRow_65 ?_
          refine lv_iload_n hx hb dX12_hasNextRow_68 rfl (lv_at hl 0 rfl) ?_
          refine lv_iconst (v := 0) hx hb dX12_hasNextRow_69 (by decide) ?_
          refine t_si hx hb hK hLA hB hS mbr tbr ai_75 (i_in (by decide) (by decide)) (show 0 ≤ (0 : Int32).toInt by decide) (show (0 : Int32).toInt ≤ 9 by decide) (Or.inr (by decide)) dX12_hasNextRow_70 (fun H locs σ_165 eσ_165 hB hS => ?_)
          have k_166 : σ_165 br 3 = 0 := by rw [eσ_165]; exact up2_same _ _ _ _
          refine lv_iinc (v := 4) (lv' := [(2, .int 4), (1, .int 1), (0, .ref h0)]) hx hb dX12_hasNextRow_71 hl (k := 0) rfl (by decide) (by decide) rfl (fun ls hl => ?_)
          refine lv_goto (tgt := 54) hx hb dX12_hasNextRow_74 (by decide) ?_
          refine lv_iload_n hx hb dX12_hasNextRow_54 rfl (lv_at hl 0 rfl) ?_
          refine lv_aload_n hx hb dX12_hasNextRow_55 rfl (lv_at hl 2 rfl) ?_
          refine t_gk hx hb hts hown hK hB mh0 th0 fq_12_20 hb_11 mw_5_236 dX12_hasNextRow_56 ?_
          refine lv_iconst (v := 1) hx hb dX12_hasNextRow_59 (by decide) ?_
          have k_167 : σ_165 b_11 1 = 4 := by rw [eσ_165, up2_nej _ _ (by decide)]; exact k_163
          refine t_aj hx hb hK hB mb_11 tb_11 ai_70 (i_in (by decide) (by decide)) dX12_hasNextRow_60 (fun x_168 ex_168 lx_168 ux_168 => ?_)
          have qx_168 : x_168 = 4 := ex_168.trans k_167
          clear lx_168 ux_168
          subst qx_168
          refine lv_icmp_ge (tgt := 77) hx hb dX12_hasNextRow_61 (by decide) (fun _ => ?_) (fun c9 => absurd (by decide) c9)
          refine lv_iconst (v := 1) hx hb dX12_hasNextRow_77 (by decide) ?_
          have k_169 : σ_157 br 0 = (σ br 0) := by rw [eσ_157, up2_nej _ _ (by decide)]
          have k_170 : σ_161 br 0 = (σ br 0) := by rw [eσ_161, up2_nej _ _ (by decide)]; exact k_169
          have k_171 : σ_165 br 0 = (σ br 0) := by rw [eσ_165, up2_nej _ _ (by decide)]; exact k_170
          have k_172 : σ_161 br 1 = x_156 := by rw [eσ_161, up2_nej _ _ (by decide)]; exact k_158
          have k_173 : σ_165 br 1 = x_156 := by rw [eσ_165, up2_nej _ _ (by decide)]; exact k_172
          have k_174 : σ_165 br 2 = 0 := by rw [eσ_165, up2_nej _ _ (by decide)]; exact k_162
          have k_175 : σ_157 br 4 = (σ br 4) := by rw [eσ_157, up2_nej _ _ (by decide)]
          have k_176 : σ_161 br 4 = (σ br 4) := by rw [eσ_161, up2_nej _ _ (by decide)]; exact k_175
          have k_177 : σ_165 br 4 = (σ br 4) := by rw [eσ_165, up2_nej _ _ (by decide)]; exact k_176
          exact W.zret (v := 1) hx hb hr rfl (fun t ht hW => ⟨⟨1, (σ_165, ρ), rfl, ⟨hB.2.1, hB.2.2, ⟨(show 0 ≤ (1 : Int32).toInt ∧ (1 : Int32).toInt ≤ 1 from ⟨by decide, by decide⟩), (show (σ br 0).toInt * 10000 + (σ br 1).toInt * 1000 + (σ br 2).toInt * 100 + (σ br 3).toInt * 10 + (σ br 4).toInt * 1 ≤ (σ_165 br 0).toInt * 10000 + (σ_165 br 1).toInt * 1000 + (σ_165 br 2).toInt * 100 + (σ_165 br 3).toInt * 10 + (σ_165 br 4).toInt * 1 from (by rw [k_171, k_173, k_174, k_166, k_177]; (first | omega | decide | (simp only [show (0 : Int32).toInt = 0 from by decide]; omega)))), (show (1 : Int32).toInt = 1 → (σ br 0).toInt * 10000 + (σ br 1).toInt * 1000 + (σ br 2).toInt * 100 + (σ br 3).toInt * 10 + (σ br 4).toInt * 1 < (σ_165 br 0).toInt * 10000 + (σ_165 br 1).toInt * 1000 + (σ_165 br 2).toInt * 100 + (σ_165 br 3).toInt * 10 + (σ_165 br 4).toInt * 1 from (fun h => (by rw [k_171, k_173, k_174, k_166, k_177]; (first | omega | (simp only [show (0 : Int32).toInt = 0 from by decide]; omega))))), (show (σ_165 br 0).toInt ≤ (σ bm 0).toInt from (by rw [k_171]; (first | omega | (simp only [show (0 : Int32).toInt = 0 from by decide]; omega)))), (show (σ_165 br 1).toInt ≤ (σ bm 1).toInt from (by rw [k_173]; (first | omega | (simp only [show (0 : Int32).toInt = 0 from by decide]; omega)))), (show (σ_165 br 2).toInt ≤ (σ bm 2).toInt from (by rw [k_174]; (first | omega | (simp only [show (0 : Int32).toInt = 0 from by decide]; omega)))), (show (σ_165 br 3).toInt ≤ (σ bm 3).toInt from (by rw [k_166]; (first | omega | (simp only [show (0 : Int32).toInt = 0 from by decide]; omega)))), (show (σ_165 br 4).toInt ≤ (σ bm 4).toInt from (by rw [k_177]; (first | omega | (simp only [show (0 : Int32).toInt = 0 from by decide]; omega))))⟩⟩, (show TP D cA L T r σ_165 ρ t.heap from by rw [ht]; exact hB.1)⟩, hS.F ht⟩) hS.2.2 dX12_hasNextRow_78
        · skip
          have uc_154 := j_eq c_154
          refine lv_iinc (v := 0) (lv' := [(1, .int 0), (0, .ref h0)]) hx hb dX12_hasNextRow_28 hl (k := 0) rfl (by decide) (by decide) rfl (fun ls hl => ?_)
          refine lv_goto (tgt := 9) hx hb dX12_hasNextRow_31 (by decide) ?_
          refine lv_iload_n hx hb dX12_hasNextRow_9 rfl (lv_at hl 0 rfl) ?_
          refine lv_if_lt (tgt := 34) hx hb dX12_hasNextRow_10 (by decide) (fun c9 => absurd c9 (by decide)) (fun _ => ?_)
          refine lv_aload_n hx hb dX12_hasNextRow_13 rfl (lv_at hl 1 rfl) ?_
          refine t_gk hx hb hts hown hK hB mh0 th0 fq_12_28 hbr mw_6_4 dX12_hasNextRow_14 ?_
          refine lv_iload_n hx hb dX12_hasNextRow_17 rfl (lv_at hl 0 rfl) ?_
          refine t_ai hx hb hK hB mbr tbr ai_75 (fun _ => rfl) (i_in (by decide) (by decide)) dX12_hasNextRow_18 (fun x_178 ex_178 lx_178 ux_178 => ?_)
          have qx_178 : x_178 = (σ br 0) := ex_178.trans rfl
          have qx_178 := qx_178.symm
          subst qx_178
          refine lv_aload_n hx hb dX12_hasNextRow_19 rfl (lv_at hl 1 rfl) ?_
          refine t_gk hx hb hts hown hK hB mh0 th0 fq_12_26 hbm mw_6_2 dX12_hasNextRow_20 ?_
          refine lv_iload_n hx hb dX12_hasNextRow_23 rfl (lv_at hl 0 rfl) ?_
          refine t_ai hx hb hK hB mbm tbm ai_73 (fun _ => rfl) (i_in (by decide) (by decide)) dX12_hasNextRow_24 (fun x_179 ex_179 lx_179 ux_179 => ?_)
          have qx_179 : x_179 = (σ bm 0) := ex_179.trans rfl
          have qx_179 := qx_179.symm
          subst qx_179
          refine lv_icmp_ne (tgt := 34) hx hb dX12_hasNextRow_25 (by decide) (fun c_180 => ?_) (fun c_180 => ?_)
          · skip
            have uc_180 := j_ne c_180
            refine lv_iload_n hx hb dX12_hasNextRow_34 rfl (lv_at hl 0 rfl) ?_
            refine lv_if_ge (tgt := 40) hx hb dX12_hasNextRow_35 (by decide) (fun _ => ?_) (fun c9 => absurd (by decide) c9)
            refine lv_aload_n hx hb dX12_hasNextRow_40 rfl (lv_at hl 1 rfl) ?_
            refine t_gk hx hb hts hown hK hB mh0 th0 fq_12_28 hbr mw_6_4 dX12_hasNextRow_41 ?_
            refine lv_iload_n hx hb dX12_hasNextRow_44 rfl (lv_at hl 0 rfl) ?_
            refine lv_dup2_11 hx hb dX12_hasNextRow_45 rfl rfl ?_
            refine t_ai hx hb hK hB mbr tbr ai_75 (fun _ => rfl) (i_in (by decide) (by decide)) dX12_hasNextRow_46 (fun x_181 ex_181 lx_181 ux_181 => ?_)
            have qx_181 : x_181 = (σ br 0) := ex_181.trans rfl
            have qx_181 := qx_181.symm
            subst qx_181
            refine lv_iconst (v := 1) hx hb dX12_hasNextRow_47 (by decide) ?_
            refine lv_iadd hx hb dX12_hasNextRow_48 ?_
            refine lv_topi (fun x_182 ex_182 => ?_)
            have vx_182 := b_add (rfl : (σ br 0).toInt = _) (by decide : (1 : Int32).toInt = 1) ex_182 (by omega) (by omega)
            refine t_si hx hb hK hLA hB hS mbr tbr ai_75 (i_in (by decide) (by decide)) (by show 0 ≤ _; (first | omega | (subst_vars; omega))) (by show _ ≤ 9; (first | omega | (subst_vars; omega))) (Or.inr (by decide)) dX12_hasNextRow_49 (fun H locs σ_183 eσ_183 hB hS => ?_)
            have k_184 : σ_183 br 0 = x_182 := by rw [eσ_183]; exact up2_same _ _ _ _
            refine lv_iload_n hx hb dX12_hasNextRow_50 rfl (lv_at hl 0 rfl) ?_
            refine lv_iconst (v := 1) hx hb dX12_hasNextRow_51 (by decide) ?_
            refine lv_iadd hx hb dX12_hasNextRow_52 ?_
            refine tp_i (w := 1) (by decide) ?_
            refine lv_istore_n (lv' := [(2, .int 1), (1, .int 0), (0, .ref h0)]) hx hb dX12_hasNextRow_53 rfl hl (by decide) rfl (fun ls hl => ?_)
            refine lv_iload_n hx hb dX12_hasNextRow_54 rfl (lv_at hl 0 rfl) ?_
            refine lv_aload_n hx hb dX12_hasNextRow_55 rfl (lv_at hl 2 rfl) ?_
            refine t_gk hx hb hts hown hK hB mh0 th0 fq_12_20 hb_11 mw_5_236 dX12_hasNextRow_56 ?_
            refine lv_iconst (v := 1) hx hb dX12_hasNextRow_59 (by decide) ?_
            have k_185 : σ_183 b_11 1 = 4 := by rw [eσ_183, up2_nej _ _ (by decide)]; exact ex_12.symm
            refine t_aj hx hb hK hB mb_11 tb_11 ai_70 (i_in (by decide) (by decide)) dX12_hasNextRow_60 (fun x_186 ex_186 lx_186 ux_186 => ?_)
            have qx_186 : x_186 = 4 := ex_186.trans k_185
            clear lx_186 ux_186
            subst qx_186
            refine lv_icmp_ge (tgt := 77) hx hb dX12_hasNextRow_61 (by decide) (fun c9 => absurd c9 (by decide)) (fun _ => ?_)
            refine lv_aload_n hx hb dX12_hasNextRow_64 rfl (lv_at hl 2 rfl) ?_
            refine t_gk hx hb hts hown hK hB mh0 th0 fq_12_28 hbr mw_6_4 dX12_hasNextRow_65 ?_
            refine lv_iload_n hx hb dX12_hasNextRow_68 rfl (lv_at hl 0 rfl) ?_
            refine lv_iconst (v := 0) hx hb dX12_hasNextRow_69 (by decide) ?_
            refine t_si hx hb hK hLA hB hS mbr tbr ai_75 (i_in (by decide) (by decide)) (show 0 ≤ (0 : Int32).toInt by decide) (show (0 : Int32).toInt ≤ 9 by decide) (Or.inr (by decide)) dX12_hasNextRow_70 (fun H locs σ_187 eσ_187 hB hS => ?_)
            have k_188 : σ_187 br 1 = 0 := by rw [eσ_187]; exact up2_same _ _ _ _
            refine lv_iinc (v := 2) (lv' := [(2, .int 2), (1, .int 0), (0, .ref h0)]) hx hb dX12_hasNextRow_71 hl (k := 0) rfl (by decide) (by decide) rfl (fun ls hl => ?_)
            refine lv_goto (tgt := 54) hx hb dX12_hasNextRow_74 (by decide) ?_
            refine lv_iload_n hx hb dX12_hasNextRow_54 rfl (lv_at hl 0 rfl) ?_
            refine lv_aload_n hx hb dX12_hasNextRow_55 rfl (lv_at hl 2 rfl) ?_
            refine t_gk hx hb hts hown hK hB mh0 th0 fq_12_20 hb_11 mw_5_236 dX12_hasNextRow_56 ?_
            refine lv_iconst (v := 1) hx hb dX12_hasNextRow_59 (by decide) ?_
            have k_189 : σ_187 b_11 1 = 4 := by rw [eσ_187, up2_nea _ _ (tg_ne tb_11 tbr (by decide))]; exact k_185
            refine t_aj hx hb hK hB mb_11 tb_11 ai_70 (i_in (by decide) (by decide)) dX12_hasNextRow_60 (fun x_190 ex_190 lx_190 ux_190 => ?_)
            have qx_190 : x_190 = 4 := ex_190.trans k_189
            clear lx_190 ux_190
            subst qx_190
            refine lv_icmp_ge (tgt := 77) hx hb dX12_hasNextRow_61 (by decide) (fun c9 => absurd c9 (by decide)) (fun _ => ?_)
            refine lv_aload_n hx hb dX12_hasNextRow_64 rfl (lv_at hl 2 rfl) ?_
            refine t_gk hx hb hts hown hK hB mh0 th0 fq_12_28 hbr mw_6_4 dX12_hasNextRow_65 ?_
            refine lv_iload_n hx hb dX12_hasNextRow_68 rfl (lv_at hl 0 rfl) ?_
            refine lv_iconst (v := 0) hx hb dX12_hasNextRow_69 (by decide) ?_
            refine t_si hx hb hK hLA hB hS mbr tbr ai_75 (i_in (by decide) (by decide)) (show 0 ≤ (0 : Int32).toInt by decide) (show (0 : Int32).toInt ≤ 9 by decide) (Or.inr (by decide)) dX12_hasNextRow_70 (fun H locs σ_191 eσ_191 hB hS => ?_)
            have k_192 : σ_191 br 2 = 0 := by rw [eσ_191]; exact up2_same _ _ _ _
            refine lv_iinc (v := 3) (lv' := [(2, .int 3), (1, .int 0), (0, .ref h0)]) hx hb dX12_hasNextRow_71 hl (k := 0) rfl (by decide) (by decide) rfl (fun ls hl => ?_)
            refine lv_goto (tgt := 54) hx hb dX12_hasNextRow_74 (by decide) ?_
            refine lv_iload_n hx hb dX12_hasNextRow_54 rfl (lv_at hl 0 rfl) ?_
            refine lv_aload_n hx hb dX12_hasNextRow_55 rfl (lv_at hl 2 rfl) ?_
            refine t_gk hx hb hts hown hK hB mh0 th0 fq_12_20 hb_11 mw_5_236 dX12_hasNextRow_56 ?_
            refine lv_iconst (v := 1) hx hb dX12_hasNextRow_59 (by decide) ?_
            have k_193 : σ_191 b_11 1 = 4 := by rw [eσ_191, up2_nej _ _ (by decide)]; exact k_189
            refine t_aj hx hb hK hB mb_11 tb_11 ai_70 (i_in (by decide) (by decide)) dX12_hasNextRow_60 (fun x_194 ex_194 lx_194 ux_194 => ?_)
            have qx_194 : x_194 = 4 := ex_194.trans k_193
            clear lx_194 ux_194
            subst qx_194
            refine lv_icmp_ge (tgt := 77) hx hb dX12_hasNextRow_61 (by decide) (fun c9 => absurd c9 (by decide)) (fun _ => ?_)
            refine lv_aload_n hx hb dX12_hasNextRow_64 rfl (lv_at hl 2 rfl) ?_
            refine t_gk hx hb hts hown hK hB mh0 th0 fq_12_28 hbr mw_6_4 dX12_hasNextRow_65 ?_
            refine lv_iload_n hx hb dX12_hasNextRow_68 rfl (lv_at hl 0 rfl) ?_
            refine lv_iconst (v := 0) hx hb dX12_hasNextRow_69 (by decide) ?_
            refine t_si hx hb hK hLA hB hS mbr tbr ai_75 (i_in (by decide) (by decide)) (show 0 ≤ (0 : Int32).toInt by decide) (show (0 : Int32).toInt ≤ 9 by decide) (Or.inr (by decide)) dX12_hasNextRow_70 (fun H locs σ_195 eσ_195 hB hS => ?_)
            have k_196 : σ_195 br 3 = 0 := by rw [eσ_195]; exact up2_same _ _ _ _
            refine lv_iinc (v := 4) (lv' := [(2, .int 4), (1, .int 0), (0, .ref h0)]) hx hb dX12_hasNextRow_71 hl (k := 0) rfl (by decide) (by decide) rfl (fun ls hl => ?_)
            refine lv_goto (tgt := 54) hx hb dX12_hasNextRow_74 (by decide) ?_
            refine lv_iload_n hx hb dX12_hasNextRow_54 rfl (lv_at hl 0 rfl) ?_
            refine lv_aload_n hx hb dX12_hasNextRow_55 rfl (lv_at hl 2 rfl) ?_
            refine t_gk hx hb hts hown hK hB mh0 th0 fq_12_20 hb_11 mw_5_236 dX12_hasNextRow_56 ?_
            refine lv_iconst (v := 1) hx hb dX12_hasNextRow_59 (by decide) ?_
            have k_197 : σ_195 b_11 1 = 4 := by rw [eσ_195, up2_nej _ _ (by decide)]; exact k_193
            refine t_aj hx hb hK hB mb_11 tb_11 ai_70 (i_in (by decide) (by decide)) dX12_hasNextRow_60 (fun x_198 ex_198 lx_198 ux_198 => ?_)
            have qx_198 : x_198 = 4 := ex_198.trans k_197
            clear lx_198 ux_198
            subst qx_198
            refine lv_icmp_ge (tgt := 77) hx hb dX12_hasNextRow_61 (by decide) (fun _ => ?_) (fun c9 => absurd (by decide) c9)
            refine lv_iconst (v := 1) hx hb dX12_hasNextRow_77 (by decide) ?_
            have k_199 : σ_187 br 0 = x_182 := by rw [eσ_187, up2_nej _ _ (by decide)]; exact k_184
            have k_200 : σ_191 br 0 = x_182 := by rw [eσ_191, up2_nej _ _ (by decide)]; exact k_199
            have k_201 : σ_195 br 0 = x_182 := by rw [eσ_195, up2_nej _ _ (by decide)]; exact k_200
            have k_202 : σ_191 br 1 = 0 := by rw [eσ_191, up2_nej _ _ (by decide)]; exact k_188
            have k_203 : σ_195 br 1 = 0 := by rw [eσ_195, up2_nej _ _ (by decide)]; exact k_202
            have k_204 : σ_195 br 2 = 0 := by rw [eσ_195, up2_nej _ _ (by decide)]; exact k_192
            have k_205 : σ_183 br 4 = (σ br 4) := by rw [eσ_183, up2_nej _ _ (by decide)]
            have k_206 : σ_187 br 4 = (σ br 4) := by rw [eσ_187, up2_nej _ _ (by decide)]; exact k_205
            have k_207 : σ_191 br 4 = (σ br 4) := by rw [eσ_191, up2_nej _ _ (by decide)]; exact k_206
            have k_208 : σ_195 br 4 = (σ br 4) := by rw [eσ_195, up2_nej _ _ (by decide)]; exact k_207
            exact W.zret (v := 1) hx hb hr rfl (fun t ht hW => ⟨⟨1, (σ_195, ρ), rfl, ⟨hB.2.1, hB.2.2, ⟨(show 0 ≤ (1 : Int32).toInt ∧ (1 : Int32).toInt ≤ 1 from ⟨by decide, by decide⟩), (show (σ br 0).toInt * 10000 + (σ br 1).toInt * 1000 + (σ br 2).toInt * 100 + (σ br 3).toInt * 10 + (σ br 4).toInt * 1 ≤ (σ_195 br 0).toInt * 10000 + (σ_195 br 1).toInt * 1000 + (σ_195 br 2).toInt * 100 + (σ_195 br 3).toInt * 10 + (σ_195 br 4).toInt * 1 from (by rw [k_201, k_203, k_204, k_196, k_208]; (first | omega | decide | (simp only [show (0 : Int32).toInt = 0 from by decide]; omega)))), (show (1 : Int32).toInt = 1 → (σ br 0).toInt * 10000 + (σ br 1).toInt * 1000 + (σ br 2).toInt * 100 + (σ br 3).toInt * 10 + (σ br 4).toInt * 1 < (σ_195 br 0).toInt * 10000 + (σ_195 br 1).toInt * 1000 + (σ_195 br 2).toInt * 100 + (σ_195 br 3).toInt * 10 + (σ_195 br 4).toInt * 1 from (fun h => (by rw [k_201, k_203, k_204, k_196, k_208]; (first | omega | (simp only [show (0 : Int32).toInt = 0 from by decide]; omega))))), (show (σ_195 br 0).toInt ≤ (σ bm 0).toInt from (by rw [k_201]; (first | omega | (simp only [show (0 : Int32).toInt = 0 from by decide]; omega)))), (show (σ_195 br 1).toInt ≤ (σ bm 1).toInt from (by rw [k_203]; (first | omega | (simp only [show (0 : Int32).toInt = 0 from by decide]; omega)))), (show (σ_195 br 2).toInt ≤ (σ bm 2).toInt from (by rw [k_204]; (first | omega | (simp only [show (0 : Int32).toInt = 0 from by decide]; omega)))), (show (σ_195 br 3).toInt ≤ (σ bm 3).toInt from (by rw [k_196]; (first | omega | (simp only [show (0 : Int32).toInt = 0 from by decide]; omega)))), (show (σ_195 br 4).toInt ≤ (σ bm 4).toInt from (by rw [k_208]; (first | omega | (simp only [show (0 : Int32).toInt = 0 from by decide]; omega))))⟩⟩, (show TP D cA L T r σ_195 ρ t.heap from by rw [ht]; exact hB.1)⟩, hS.F ht⟩) hS.2.2 dX12_hasNextRow_78
          · skip
            have uc_180 := j_eq c_180
            refine lv_iinc (v := (-1)) (lv' := [(1, .int (-1)), (0, .ref h0)]) hx hb dX12_hasNextRow_28 hl (k := 0) rfl (by decide) (by decide) rfl (fun ls hl => ?_)
            refine lv_goto (tgt := 9) hx hb dX12_hasNextRow_31 (by decide) ?_
            refine lv_iload_n hx hb dX12_hasNextRow_9 rfl (lv_at hl 0 rfl) ?_
            refine lv_if_lt (tgt := 34) hx hb dX12_hasNextRow_10 (by decide) (fun _ => ?_) (fun c9 => absurd (by decide) c9)
            refine lv_iload_n hx hb dX12_hasNextRow_34 rfl (lv_at hl 0 rfl) ?_
            refine lv_if_ge (tgt := 40) hx hb dX12_hasNextRow_35 (by decide) (fun c9 => absurd c9 (by decide)) (fun _ => ?_)
            refine lv_iconst (v := 0) hx hb dX12_hasNextRow_38 (by decide) ?_
            exact W.zret (v := 0) hx hb hr rfl (fun t ht hW => ⟨⟨0, (σ, ρ), rfl, ⟨hB.2.1, hB.2.2, ⟨(show 0 ≤ (0 : Int32).toInt ∧ (0 : Int32).toInt ≤ 1 from ⟨by decide, by decide⟩), (show (σ br 0).toInt * 10000 + (σ br 1).toInt * 1000 + (σ br 2).toInt * 100 + (σ br 3).toInt * 10 + (σ br 4).toInt * 1 ≤ (σ br 0).toInt * 10000 + (σ br 1).toInt * 1000 + (σ br 2).toInt * 100 + (σ br 3).toInt * 10 + (σ br 4).toInt * 1 from (by (first | omega | decide | (simp only [show (0 : Int32).toInt = 0 from by decide]; omega)))), (show (0 : Int32).toInt = 1 → (σ br 0).toInt * 10000 + (σ br 1).toInt * 1000 + (σ br 2).toInt * 100 + (σ br 3).toInt * 10 + (σ br 4).toInt * 1 < (σ br 0).toInt * 10000 + (σ br 1).toInt * 1000 + (σ br 2).toInt * 100 + (σ br 3).toInt * 10 + (σ br 4).toInt * 1 from (fun h => absurd h (by decide))), (show (σ br 0).toInt ≤ (σ bm 0).toInt from (by (first | omega | (simp only [show (0 : Int32).toInt = 0 from by decide]; omega)))), (show (σ br 1).toInt ≤ (σ bm 1).toInt from (by (first | omega | (simp only [show (0 : Int32).toInt = 0 from by decide]; omega)))), (show (σ br 2).toInt ≤ (σ bm 2).toInt from (by (first | omega | (simp only [show (0 : Int32).toInt = 0 from by decide]; omega)))), (show (σ br 3).toInt ≤ (σ bm 3).toInt from (by (first | omega | (simp only [show (0 : Int32).toInt = 0 from by decide]; omega)))), (show (σ br 4).toInt ≤ (σ bm 4).toInt from (by (first | omega | (simp only [show (0 : Int32).toInt = 0 from by decide]; omega))))⟩⟩, (show TP D cA L T r σ ρ t.heap from by rw [ht]; exact hB.1)⟩, hS.F ht⟩) hS.2.2 dX12_hasNextRow_39
  · skip
    have c_13x : x_12 = 5 := i_is (by decide) c_13j
    subst c_13x
    refine lv_iconst (v := 1) hx hb dX12_hasNextRow_6 (by decide) ?_
    refine lv_isub hx hb dX12_hasNextRow_7 ?_
    refine tp_i (w := 4) (by decide) ?_
    refine lv_istore_n (lv' := [(1, .int 4), (0, .ref h0)]) hx hb dX12_hasNextRow_8 rfl hl (by decide) rfl (fun ls hl => ?_)
    refine lv_iload_n hx hb dX12_hasNextRow_9 rfl (lv_at hl 0 rfl) ?_
    refine lv_if_lt (tgt := 34) hx hb dX12_hasNextRow_10 (by decide) (fun c9 => absurd c9 (by decide)) (fun _ => ?_)
    refine lv_aload_n hx hb dX12_hasNextRow_13 rfl (lv_at hl 1 rfl) ?_
    refine t_gk hx hb hts hown hK hB mh0 th0 fq_12_28 hbr mw_6_4 dX12_hasNextRow_14 ?_
    refine lv_iload_n hx hb dX12_hasNextRow_17 rfl (lv_at hl 0 rfl) ?_
    refine t_ai hx hb hK hB mbr tbr ai_75 (fun _ => rfl) (i_in (by decide) (by decide)) dX12_hasNextRow_18 (fun x_209 ex_209 lx_209 ux_209 => ?_)
    have qx_209 : x_209 = (σ br 4) := ex_209.trans rfl
    have qx_209 := qx_209.symm
    subst qx_209
    refine lv_aload_n hx hb dX12_hasNextRow_19 rfl (lv_at hl 1 rfl) ?_
    refine t_gk hx hb hts hown hK hB mh0 th0 fq_12_26 hbm mw_6_2 dX12_hasNextRow_20 ?_
    refine lv_iload_n hx hb dX12_hasNextRow_23 rfl (lv_at hl 0 rfl) ?_
    refine t_ai hx hb hK hB mbm tbm ai_73 (fun _ => rfl) (i_in (by decide) (by decide)) dX12_hasNextRow_24 (fun x_210 ex_210 lx_210 ux_210 => ?_)
    have qx_210 : x_210 = (σ bm 4) := ex_210.trans rfl
    have qx_210 := qx_210.symm
    subst qx_210
    refine lv_icmp_ne (tgt := 34) hx hb dX12_hasNextRow_25 (by decide) (fun c_211 => ?_) (fun c_211 => ?_)
    · skip
      have uc_211 := j_ne c_211
      refine lv_iload_n hx hb dX12_hasNextRow_34 rfl (lv_at hl 0 rfl) ?_
      refine lv_if_ge (tgt := 40) hx hb dX12_hasNextRow_35 (by decide) (fun _ => ?_) (fun c9 => absurd (by decide) c9)
      refine lv_aload_n hx hb dX12_hasNextRow_40 rfl (lv_at hl 1 rfl) ?_
      refine t_gk hx hb hts hown hK hB mh0 th0 fq_12_28 hbr mw_6_4 dX12_hasNextRow_41 ?_
      refine lv_iload_n hx hb dX12_hasNextRow_44 rfl (lv_at hl 0 rfl) ?_
      refine lv_dup2_11 hx hb dX12_hasNextRow_45 rfl rfl ?_
      refine t_ai hx hb hK hB mbr tbr ai_75 (fun _ => rfl) (i_in (by decide) (by decide)) dX12_hasNextRow_46 (fun x_212 ex_212 lx_212 ux_212 => ?_)
      have qx_212 : x_212 = (σ br 4) := ex_212.trans rfl
      have qx_212 := qx_212.symm
      subst qx_212
      refine lv_iconst (v := 1) hx hb dX12_hasNextRow_47 (by decide) ?_
      refine lv_iadd hx hb dX12_hasNextRow_48 ?_
      refine lv_topi (fun x_213 ex_213 => ?_)
      have vx_213 := b_add (rfl : (σ br 4).toInt = _) (by decide : (1 : Int32).toInt = 1) ex_213 (by omega) (by omega)
      refine t_si hx hb hK hLA hB hS mbr tbr ai_75 (i_in (by decide) (by decide)) (by show 0 ≤ _; (first | omega | (subst_vars; omega))) (by show _ ≤ 9; (first | omega | (subst_vars; omega))) (Or.inr (by decide)) dX12_hasNextRow_49 (fun H locs σ_214 eσ_214 hB hS => ?_)
      have k_215 : σ_214 br 4 = x_213 := by rw [eσ_214]; exact up2_same _ _ _ _
      refine lv_iload_n hx hb dX12_hasNextRow_50 rfl (lv_at hl 0 rfl) ?_
      refine lv_iconst (v := 1) hx hb dX12_hasNextRow_51 (by decide) ?_
      refine lv_iadd hx hb dX12_hasNextRow_52 ?_
      refine tp_i (w := 5) (by decide) ?_
      refine lv_istore_n (lv' := [(2, .int 5), (1, .int 4), (0, .ref h0)]) hx hb dX12_hasNextRow_53 rfl hl (by decide) rfl (fun ls hl => ?_)
      refine lv_iload_n hx hb dX12_hasNextRow_54 rfl (lv_at hl 0 rfl) ?_
      refine lv_aload_n hx hb dX12_hasNextRow_55 rfl (lv_at hl 2 rfl) ?_
      refine t_gk hx hb hts hown hK hB mh0 th0 fq_12_20 hb_11 mw_5_236 dX12_hasNextRow_56 ?_
      refine lv_iconst (v := 1) hx hb dX12_hasNextRow_59 (by decide) ?_
      have k_216 : σ_214 b_11 1 = 5 := by rw [eσ_214, up2_nej _ _ (by decide)]; exact ex_12.symm
      refine t_aj hx hb hK hB mb_11 tb_11 ai_70 (i_in (by decide) (by decide)) dX12_hasNextRow_60 (fun x_217 ex_217 lx_217 ux_217 => ?_)
      have qx_217 : x_217 = 5 := ex_217.trans k_216
      clear lx_217 ux_217
      subst qx_217
      refine lv_icmp_ge (tgt := 77) hx hb dX12_hasNextRow_61 (by decide) (fun _ => ?_) (fun c9 => absurd (by decide) c9)
      refine lv_iconst (v := 1) hx hb dX12_hasNextRow_77 (by decide) ?_
      have k_218 : σ_214 br 0 = (σ br 0) := by rw [eσ_214, up2_nej _ _ (by decide)]
      have k_219 : σ_214 br 1 = (σ br 1) := by rw [eσ_214, up2_nej _ _ (by decide)]
      have k_220 : σ_214 br 2 = (σ br 2) := by rw [eσ_214, up2_nej _ _ (by decide)]
      have k_221 : σ_214 br 3 = (σ br 3) := by rw [eσ_214, up2_nej _ _ (by decide)]
      exact W.zret (v := 1) hx hb hr rfl (fun t ht hW => ⟨⟨1, (σ_214, ρ), rfl, ⟨hB.2.1, hB.2.2, ⟨(show 0 ≤ (1 : Int32).toInt ∧ (1 : Int32).toInt ≤ 1 from ⟨by decide, by decide⟩), (show (σ br 0).toInt * 10000 + (σ br 1).toInt * 1000 + (σ br 2).toInt * 100 + (σ br 3).toInt * 10 + (σ br 4).toInt * 1 ≤ (σ_214 br 0).toInt * 10000 + (σ_214 br 1).toInt * 1000 + (σ_214 br 2).toInt * 100 + (σ_214 br 3).toInt * 10 + (σ_214 br 4).toInt * 1 from (by rw [k_218, k_219, k_220, k_221, k_215]; (first | omega | decide | (simp only [show (0 : Int32).toInt = 0 from by decide]; omega)))), (show (1 : Int32).toInt = 1 → (σ br 0).toInt * 10000 + (σ br 1).toInt * 1000 + (σ br 2).toInt * 100 + (σ br 3).toInt * 10 + (σ br 4).toInt * 1 < (σ_214 br 0).toInt * 10000 + (σ_214 br 1).toInt * 1000 + (σ_214 br 2).toInt * 100 + (σ_214 br 3).toInt * 10 + (σ_214 br 4).toInt * 1 from (fun h => (by rw [k_218, k_219, k_220, k_221, k_215]; (first | omega | (simp only [show (0 : Int32).toInt = 0 from by decide]; omega))))), (show (σ_214 br 0).toInt ≤ (σ bm 0).toInt from (by rw [k_218]; (first | omega | (simp only [show (0 : Int32).toInt = 0 from by decide]; omega)))), (show (σ_214 br 1).toInt ≤ (σ bm 1).toInt from (by rw [k_219]; (first | omega | (simp only [show (0 : Int32).toInt = 0 from by decide]; omega)))), (show (σ_214 br 2).toInt ≤ (σ bm 2).toInt from (by rw [k_220]; (first | omega | (simp only [show (0 : Int32).toInt = 0 from by decide]; omega)))), (show (σ_214 br 3).toInt ≤ (σ bm 3).toInt from (by rw [k_221]; (first | omega | (simp only [show (0 : Int32).toInt = 0 from by decide]; omega)))), (show (σ_214 br 4).toInt ≤ (σ bm 4).toInt from (by rw [k_215]; (first | omega | (simp only [show (0 : Int32).toInt = 0 from by decide]; omega))))⟩⟩, (show TP D cA L T r σ_214 ρ t.heap from by rw [ht]; exact hB.1)⟩, hS.F ht⟩) hS.2.2 dX12_hasNextRow_78
    · skip
      have uc_211 := j_eq c_211
      refine lv_iinc (v := 3) (lv' := [(1, .int 3), (0, .ref h0)]) hx hb dX12_hasNextRow_28 hl (k := 0) rfl (by decide) (by decide) rfl (fun ls hl => ?_)
      refine lv_goto (tgt := 9) hx hb dX12_hasNextRow_31 (by decide) ?_
      refine lv_iload_n hx hb dX12_hasNextRow_9 rfl (lv_at hl 0 rfl) ?_
      refine lv_if_lt (tgt := 34) hx hb dX12_hasNextRow_10 (by decide) (fun c9 => absurd c9 (by decide)) (fun _ => ?_)
      refine lv_aload_n hx hb dX12_hasNextRow_13 rfl (lv_at hl 1 rfl) ?_
      refine t_gk hx hb hts hown hK hB mh0 th0 fq_12_28 hbr mw_6_4 dX12_hasNextRow_14 ?_
      refine lv_iload_n hx hb dX12_hasNextRow_17 rfl (lv_at hl 0 rfl) ?_
      refine t_ai hx hb hK hB mbr tbr ai_75 (fun _ => rfl) (i_in (by decide) (by decide)) dX12_hasNextRow_18 (fun x_222 ex_222 lx_222 ux_222 => ?_)
      have qx_222 : x_222 = (σ br 3) := ex_222.trans rfl
      have qx_222 := qx_222.symm
      subst qx_222
      refine lv_aload_n hx hb dX12_hasNextRow_19 rfl (lv_at hl 1 rfl) ?_
      refine t_gk hx hb hts hown hK hB mh0 th0 fq_12_26 hbm mw_6_2 dX12_hasNextRow_20 ?_
      refine lv_iload_n hx hb dX12_hasNextRow_23 rfl (lv_at hl 0 rfl) ?_
      refine t_ai hx hb hK hB mbm tbm ai_73 (fun _ => rfl) (i_in (by decide) (by decide)) dX12_hasNextRow_24 (fun x_223 ex_223 lx_223 ux_223 => ?_)
      have qx_223 : x_223 = (σ bm 3) := ex_223.trans rfl
      have qx_223 := qx_223.symm
      subst qx_223
      refine lv_icmp_ne (tgt := 34) hx hb dX12_hasNextRow_25 (by decide) (fun c_224 => ?_) (fun c_224 => ?_)
      · skip
        have uc_224 := j_ne c_224
        refine lv_iload_n hx hb dX12_hasNextRow_34 rfl (lv_at hl 0 rfl) ?_
        refine lv_if_ge (tgt := 40) hx hb dX12_hasNextRow_35 (by decide) (fun _ => ?_) (fun c9 => absurd (by decide) c9)
        refine lv_aload_n hx hb dX12_hasNextRow_40 rfl (lv_at hl 1 rfl) ?_
        refine t_gk hx hb hts hown hK hB mh0 th0 fq_12_28 hbr mw_6_4 dX12_hasNextRow_41 ?_
        refine lv_iload_n hx hb dX12_hasNextRow_44 rfl (lv_at hl 0 rfl) ?_
        refine lv_dup2_11 hx hb dX12_hasNextRow_45 rfl rfl ?_
        refine t_ai hx hb hK hB mbr tbr ai_75 (fun _ => rfl) (i_in (by decide) (by decide)) dX12_hasNextRow_46 (fun x_225 ex_225 lx_225 ux_225 => ?_)
        have qx_225 : x_225 = (σ br 3) := ex_225.trans rfl
        have qx_225 := qx_225.symm
        subst qx_225
        refine lv_iconst (v := 1) hx hb dX12_hasNextRow_47 (by decide) ?_
        refine lv_iadd hx hb dX12_hasNextRow_48 ?_
        refine lv_topi (fun x_226 ex_226 => ?_)
        have vx_226 := b_add (rfl : (σ br 3).toInt = _) (by decide : (1 : Int32).toInt = 1) ex_226 (by omega) (by omega)
        refine t_si hx hb hK hLA hB hS mbr tbr ai_75 (i_in (by decide) (by decide)) (by show 0 ≤ _; (first | omega | (subst_vars; omega))) (by show _ ≤ 9; (first | omega | (subst_vars; omega))) (Or.inr (by decide)) dX12_hasNextRow_49 (fun H locs σ_227 eσ_227 hB hS => ?_)
        have k_228 : σ_227 br 3 = x_226 := by rw [eσ_227]; exact up2_same _ _ _ _
        refine lv_iload_n hx hb dX12_hasNextRow_50 rfl (lv_at hl 0 rfl) ?_
        refine lv_iconst (v := 1) hx hb dX12_hasNextRow_51 (by decide) ?_
        refine lv_iadd hx hb dX12_hasNextRow_52 ?_
        refine tp_i (w := 4) (by decide) ?_
        refine lv_istore_n (lv' := [(2, .int 4), (1, .int 3), (0, .ref h0)]) hx hb dX12_hasNextRow_53 rfl hl (by decide) rfl (fun ls hl => ?_)
        refine lv_iload_n hx hb dX12_hasNextRow_54 rfl (lv_at hl 0 rfl) ?_
        refine lv_aload_n hx hb dX12_hasNextRow_55 rfl (lv_at hl 2 rfl) ?_
        refine t_gk hx hb hts hown hK hB mh0 th0 fq_12_20 hb_11 mw_5_236 dX12_hasNextRow_56 ?_
        refine lv_iconst (v := 1) hx hb dX12_hasNextRow_59 (by decide) ?_
        have k_229 : σ_227 b_11 1 = 5 := by rw [eσ_227, up2_nej _ _ (by decide)]; exact ex_12.symm
        refine t_aj hx hb hK hB mb_11 tb_11 ai_70 (i_in (by decide) (by decide)) dX12_hasNextRow_60 (fun x_230 ex_230 lx_230 ux_230 => ?_)
        have qx_230 : x_230 = 5 := ex_230.trans k_229
        clear lx_230 ux_230
        subst qx_230
        refine lv_icmp_ge (tgt := 77) hx hb dX12_hasNextRow_61 (by decide) (fun c9 => absurd c9 (by decide)) (fun _ => ?_)
        refine lv_aload_n hx hb dX12_hasNextRow_64 rfl (lv_at hl 2 rfl) ?_
        refine t_gk hx hb hts hown hK hB mh0 th0 fq_12_28 hbr mw_6_4 dX12_hasNextRow_65 ?_
        refine lv_iload_n hx hb dX12_hasNextRow_68 rfl (lv_at hl 0 rfl) ?_
        refine lv_iconst (v := 0) hx hb dX12_hasNextRow_69 (by decide) ?_
        refine t_si hx hb hK hLA hB hS mbr tbr ai_75 (i_in (by decide) (by decide)) (show 0 ≤ (0 : Int32).toInt by decide) (show (0 : Int32).toInt ≤ 9 by decide) (Or.inr (by decide)) dX12_hasNextRow_70 (fun H locs σ_231 eσ_231 hB hS => ?_)
        have k_232 : σ_231 br 4 = 0 := by rw [eσ_231]; exact up2_same _ _ _ _
        refine lv_iinc (v := 5) (lv' := [(2, .int 5), (1, .int 3), (0, .ref h0)]) hx hb dX12_hasNextRow_71 hl (k := 0) rfl (by decide) (by decide) rfl (fun ls hl => ?_)
        refine lv_goto (tgt := 54) hx hb dX12_hasNextRow_74 (by decide) ?_
        refine lv_iload_n hx hb dX12_hasNextRow_54 rfl (lv_at hl 0 rfl) ?_
        refine lv_aload_n hx hb dX12_hasNextRow_55 rfl (lv_at hl 2 rfl) ?_
        refine t_gk hx hb hts hown hK hB mh0 th0 fq_12_20 hb_11 mw_5_236 dX12_hasNextRow_56 ?_
        refine lv_iconst (v := 1) hx hb dX12_hasNextRow_59 (by decide) ?_
        have k_233 : σ_231 b_11 1 = 5 := by rw [eσ_231, up2_nej _ _ (by decide)]; exact k_229
        refine t_aj hx hb hK hB mb_11 tb_11 ai_70 (i_in (by decide) (by decide)) dX12_hasNextRow_60 (fun x_234 ex_234 lx_234 ux_234 => ?_)
        have qx_234 : x_234 = 5 := ex_234.trans k_233
        clear lx_234 ux_234
        subst qx_234
        refine lv_icmp_ge (tgt := 77) hx hb dX12_hasNextRow_61 (by decide) (fun _ => ?_) (fun c9 => absurd (by decide) c9)
        refine lv_iconst (v := 1) hx hb dX12_hasNextRow_77 (by decide) ?_
        have k_235 : σ_227 br 0 = (σ br 0) := by rw [eσ_227, up2_nej _ _ (by decide)]
        have k_236 : σ_231 br 0 = (σ br 0) := by rw [eσ_231, up2_nej _ _ (by decide)]; exact k_235
        have k_237 : σ_227 br 1 = (σ br 1) := by rw [eσ_227, up2_nej _ _ (by decide)]
        have k_238 : σ_231 br 1 = (σ br 1) := by rw [eσ_231, up2_nej _ _ (by decide)]; exact k_237
        have k_239 : σ_227 br 2 = (σ br 2) := by rw [eσ_227, up2_nej _ _ (by decide)]
        have k_240 : σ_231 br 2 = (σ br 2) := by rw [eσ_231, up2_nej _ _ (by decide)]; exact k_239
        have k_241 : σ_231 br 3 = x_226 := by rw [eσ_231, up2_nej _ _ (by decide)]; exact k_228
        exact W.zret (v := 1) hx hb hr rfl (fun t ht hW => ⟨⟨1, (σ_231, ρ), rfl, ⟨hB.2.1, hB.2.2, ⟨(show 0 ≤ (1 : Int32).toInt ∧ (1 : Int32).toInt ≤ 1 from ⟨by decide, by decide⟩), (show (σ br 0).toInt * 10000 + (σ br 1).toInt * 1000 + (σ br 2).toInt * 100 + (σ br 3).toInt * 10 + (σ br 4).toInt * 1 ≤ (σ_231 br 0).toInt * 10000 + (σ_231 br 1).toInt * 1000 + (σ_231 br 2).toInt * 100 + (σ_231 br 3).toInt * 10 + (σ_231 br 4).toInt * 1 from (by rw [k_236, k_238, k_240, k_241, k_232]; (first | omega | decide | (simp only [show (0 : Int32).toInt = 0 from by decide]; omega)))), (show (1 : Int32).toInt = 1 → (σ br 0).toInt * 10000 + (σ br 1).toInt * 1000 + (σ br 2).toInt * 100 + (σ br 3).toInt * 10 + (σ br 4).toInt * 1 < (σ_231 br 0).toInt * 10000 + (σ_231 br 1).toInt * 1000 + (σ_231 br 2).toInt * 100 + (σ_231 br 3).toInt * 10 + (σ_231 br 4).toInt * 1 from (fun h => (by rw [k_236, k_238, k_240, k_241, k_232]; (first | omega | (simp only [show (0 : Int32).toInt = 0 from by decide]; omega))))), (show (σ_231 br 0).toInt ≤ (σ bm 0).toInt from (by rw [k_236]; (first | omega | (simp only [show (0 : Int32).toInt = 0 from by decide]; omega)))), (show (σ_231 br 1).toInt ≤ (σ bm 1).toInt from (by rw [k_238]; (first | omega | (simp only [show (0 : Int32).toInt = 0 from by decide]; omega)))), (show (σ_231 br 2).toInt ≤ (σ bm 2).toInt from (by rw [k_240]; (first | omega | (simp only [show (0 : Int32).toInt = 0 from by decide]; omega)))), (show (σ_231 br 3).toInt ≤ (σ bm 3).toInt from (by rw [k_241]; (first | omega | (simp only [show (0 : Int32).toInt = 0 from by decide]; omega)))), (show (σ_231 br 4).toInt ≤ (σ bm 4).toInt from (by rw [k_232]; (first | omega | (simp only [show (0 : Int32).toInt = 0 from by decide]; omega))))⟩⟩, (show TP D cA L T r σ_231 ρ t.heap from by rw [ht]; exact hB.1)⟩, hS.F ht⟩) hS.2.2 dX12_hasNextRow_78
      · skip
        have uc_224 := j_eq c_224
        refine lv_iinc (v := 2) (lv' := [(1, .int 2), (0, .ref h0)]) hx hb dX12_hasNextRow_28 hl (k := 0) rfl (by decide) (by decide) rfl (fun ls hl => ?_)
        refine lv_goto (tgt := 9) hx hb dX12_hasNextRow_31 (by decide) ?_
        refine lv_iload_n hx hb dX12_hasNextRow_9 rfl (lv_at hl 0 rfl) ?_
        refine lv_if_lt (tgt := 34) hx hb dX12_hasNextRow_10 (by decide) (fun c9 => absurd c9 (by decide)) (fun _ => ?_)
        refine lv_aload_n hx hb dX12_hasNextRow_13 rfl (lv_at hl 1 rfl) ?_
        refine t_gk hx hb hts hown hK hB mh0 th0 fq_12_28 hbr mw_6_4 dX12_hasNextRow_14 ?_
        refine lv_iload_n hx hb dX12_hasNextRow_17 rfl (lv_at hl 0 rfl) ?_
        refine t_ai hx hb hK hB mbr tbr ai_75 (fun _ => rfl) (i_in (by decide) (by decide)) dX12_hasNextRow_18 (fun x_242 ex_242 lx_242 ux_242 => ?_)
        have qx_242 : x_242 = (σ br 2) := ex_242.trans rfl
        have qx_242 := qx_242.symm
        subst qx_242
        refine lv_aload_n hx hb dX12_hasNextRow_19 rfl (lv_at hl 1 rfl) ?_
        refine t_gk hx hb hts hown hK hB mh0 th0 fq_12_26 hbm mw_6_2 dX12_hasNextRow_20 ?_
        refine lv_iload_n hx hb dX12_hasNextRow_23 rfl (lv_at hl 0 rfl) ?_
        refine t_ai hx hb hK hB mbm tbm ai_73 (fun _ => rfl) (i_in (by decide) (by decide)) dX12_hasNextRow_24 (fun x_243 ex_243 lx_243 ux_243 => ?_)
        have qx_243 : x_243 = (σ bm 2) := ex_243.trans rfl
        have qx_243 := qx_243.symm
        subst qx_243
        refine lv_icmp_ne (tgt := 34) hx hb dX12_hasNextRow_25 (by decide) (fun c_244 => ?_) (fun c_244 => ?_)
        · skip
          have uc_244 := j_ne c_244
          refine lv_iload_n hx hb dX12_hasNextRow_34 rfl (lv_at hl 0 rfl) ?_
          refine lv_if_ge (tgt := 40) hx hb dX12_hasNextRow_35 (by decide) (fun _ => ?_) (fun c9 => absurd (by decide) c9)
          refine lv_aload_n hx hb dX12_hasNextRow_40 rfl (lv_at hl 1 rfl) ?_
          refine t_gk hx hb hts hown hK hB mh0 th0 fq_12_28 hbr mw_6_4 dX12_hasNextRow_41 ?_
          refine lv_iload_n hx hb dX12_hasNextRow_44 rfl (lv_at hl 0 rfl) ?_
          refine lv_dup2_11 hx hb dX12_hasNextRow_45 rfl rfl ?_
          refine t_ai hx hb hK hB mbr tbr ai_75 (fun _ => rfl) (i_in (by decide) (by decide)) dX12_hasNextRow_46 (fun x_245 ex_245 lx_245 ux_245 => ?_)
          have qx_245 : x_245 = (σ br 2) := ex_245.trans rfl
          have qx_245 := qx_245.symm
          subst qx_245
          refine lv_iconst (v := 1) hx hb dX12_hasNextRow_47 (by decide) ?_
          refine lv_iadd hx hb dX12_hasNextRow_48 ?_
          refine lv_topi (fun x_246 ex_246 => ?_)
          have vx_246 := b_add (rfl : (σ br 2).toInt = _) (by decide : (1 : Int32).toInt = 1) ex_246 (by omega) (by omega)
          refine t_si hx hb hK hLA hB hS mbr tbr ai_75 (i_in (by decide) (by decide)) (by show 0 ≤ _; (first | omega | (subst_vars; omega))) (by show _ ≤ 9; (first | omega | (subst_vars; omega))) (Or.inr (by decide)) dX12_hasNextRow_49 (fun H locs σ_247 eσ_247 hB hS => ?_)
          have k_248 : σ_247 br 2 = x_246 := by rw [eσ_247]; exact up2_same _ _ _ _
          refine lv_iload_n hx hb dX12_hasNextRow_50 rfl (lv_at hl 0 rfl) ?_
          refine lv_iconst (v := 1) hx hb dX12_hasNextRow_51 (by decide) ?_
          refine lv_iadd hx hb dX12_hasNextRow_52 ?_
          refine tp_i (w := 3) (by decide) ?_
          refine lv_istore_n (lv' := [(2, .int 3), (1, .int 2), (0, .ref h0)]) hx hb dX12_hasNextRow_53 rfl hl (by decide) rfl (fun ls hl => ?_)
          refine lv_iload_n hx hb dX12_hasNextRow_54 rfl (lv_at hl 0 rfl) ?_
          refine lv_aload_n hx hb dX12_hasNextRow_55 rfl (lv_at hl 2 rfl) ?_
          refine t_gk hx hb hts hown hK hB mh0 th0 fq_12_20 hb_11 mw_5_236 dX12_hasNextRow_56 ?_
          refine lv_iconst (v := 1) hx hb dX12_hasNextRow_59 (by decide) ?_
          have k_249 : σ_247 b_11 1 = 5 := by rw [eσ_247, up2_nej _ _ (by decide)]; exact ex_12.symm
          refine t_aj hx hb hK hB mb_11 tb_11 ai_70 (i_in (by decide) (by decide)) dX12_hasNextRow_60 (fun x_250 ex_250 lx_250 ux_250 => ?_)
          have qx_250 : x_250 = 5 := ex_250.trans k_249
          clear lx_250 ux_250
          subst qx_250
          refine lv_icmp_ge (tgt := 77) hx hb dX12_hasNextRow_61 (by decide) (fun c9 => absurd c9 (by decide)) (fun _ => ?_)
          refine lv_aload_n hx hb dX12_hasNextRow_64 rfl (lv_at hl 2 rfl) ?_
          refine t_gk hx hb hts hown hK hB mh0 th0 fq_12_28 hbr mw_6_4 dX12_hasNextRow_65 ?_
          refine lv_iload_n hx hb dX12_hasNextRow_68 rfl (lv_at hl 0 rfl) ?_
          refine lv_iconst (v := 0) hx hb dX12_hasNextRow_69 (by decide) ?_
          refine t_si hx hb hK hLA hB hS mbr tbr ai_75 (i_in (by decide) (by decide)) (show 0 ≤ (0 : Int32).toInt by decide) (show (0 : Int32).toInt ≤ 9 by decide) (Or.inr (by decide)) dX12_hasNextRow_70 (fun H locs σ_251 eσ_251 hB hS => ?_)
          have k_252 : σ_251 br 3 = 0 := by rw [eσ_251]; exact up2_same _ _ _ _
          refine lv_iinc (v := 4) (lv' := [(2, .int 4), (1, .int 2), (0, .ref h0)]) hx hb dX12_hasNextRow_71 hl (k := 0) rfl (by decide) (by decide) rfl (fun ls hl => ?_)
          refine lv_goto (tgt := 54) hx hb dX12_hasNextRow_74 (by decide) ?_
          refine lv_iload_n hx hb dX12_hasNextRow_54 rfl (lv_at hl 0 rfl) ?_
          refine lv_aload_n hx hb dX12_hasNextRow_55 rfl (lv_at hl 2 rfl) ?_
          refine t_gk hx hb hts hown hK hB mh0 th0 fq_12_20 hb_11 mw_5_236 dX12_hasNextRow_56 ?_
          refine lv_iconst (v := 1) hx hb dX12_hasNextRow_59 (by decide) ?_
          have k_253 : σ_251 b_11 1 = 5 := by rw [eσ_251, up2_nej _ _ (by decide)]; exact k_249
          refine t_aj hx hb hK hB mb_11 tb_11 ai_70 (i_in (by decide) (by decide)) dX12_hasNextRow_60 (fun x_254 ex_254 lx_254 ux_254 => ?_)
          have qx_254 : x_254 = 5 := ex_254.trans k_253
          clear lx_254 ux_254
          subst qx_254
          refine lv_icmp_ge (tgt := 77) hx hb dX12_hasNextRow_61 (by decide) (fun c9 => absurd c9 (by decide)) (fun _ => ?_)
          refine lv_aload_n hx hb dX12_hasNextRow_64 rfl (lv_at hl 2 rfl) ?_
          refine t_gk hx hb hts hown hK hB mh0 th0 fq_12_28 hbr mw_6_4 dX12_hasNextRow_65 ?_
          refine lv_iload_n hx hb dX12_hasNextRow_68 rfl (lv_at hl 0 rfl) ?_
          refine lv_iconst (v := 0) hx hb dX12_hasNextRow_69 (by decide) ?_
          refine t_si hx hb hK hLA hB hS mbr tbr ai_75 (i_in (by decide) (by decide)) (show 0 ≤ (0 : Int32).toInt by decide) (show (0 : Int32).toInt ≤ 9 by decide) (Or.inr (by decide)) dX12_hasNextRow_70 (fun H locs σ_255 eσ_255 hB hS => ?_)
          have k_256 : σ_255 br 4 = 0 := by rw [eσ_255]; exact up2_same _ _ _ _
          refine lv_iinc (v := 5) (lv' := [(2, .int 5), (1, .int 2), (0, .ref h0)]) hx hb dX12_hasNextRow_71 hl (k := 0) rfl (by decide) (by decide) rfl (fun ls hl => ?_)
          refine lv_goto (tgt := 54) hx hb dX12_hasNextRow_74 (by decide) ?_
          refine lv_iload_n hx hb dX12_hasNextRow_54 rfl (lv_at hl 0 rfl) ?_
          refine lv_aload_n hx hb dX12_hasNextRow_55 rfl (lv_at hl 2 rfl) ?_
          refine t_gk hx hb hts hown hK hB mh0 th0 fq_12_20 hb_11 mw_5_236 dX12_hasNextRow_56 ?_
          refine lv_iconst (v := 1) hx hb dX12_hasNextRow_59 (by decide) ?_
          have k_257 : σ_255 b_11 1 = 5 := by rw [eσ_255, up2_nej _ _ (by decide)]; exact k_253
          refine t_aj hx hb hK hB mb_11 tb_11 ai_70 (i_in (by decide) (by decide)) dX12_hasNextRow_60 (fun x_258 ex_258 lx_258 ux_258 => ?_)
          have qx_258 : x_258 = 5 := ex_258.trans k_257
          clear lx_258 ux_258
          subst qx_258
          refine lv_icmp_ge (tgt := 77) hx hb dX12_hasNextRow_61 (by decide) (fun _ => ?_) (fun c9 => absurd (by decide) c9)
          refine lv_iconst (v := 1) hx hb dX12_hasNextRow_77 (by decide) ?_
          have k_259 : σ_247 br 0 = (σ br 0) := by rw [eσ_247, up2_nej _ _ (by decide)]
          have k_260 : σ_251 br 0 = (σ br 0) := by rw [eσ_251, up2_nej _ _ (by decide)]; exact k_259
          have k_261 : σ_255 br 0 = (σ br 0) := by rw [eσ_255, up2_nej _ _ (by decide)]; exact k_260
          have k_262 : σ_247 br 1 = (σ br 1) := by rw [eσ_247, up2_nej _ _ (by decide)]
          have k_263 : σ_251 br 1 = (σ br 1) := by rw [eσ_251, up2_nej _ _ (by decide)]; exact k_262
          have k_264 : σ_255 br 1 = (σ br 1) := by rw [eσ_255, up2_nej _ _ (by decide)]; exact k_263
          have k_265 : σ_251 br 2 = x_246 := by rw [eσ_251, up2_nej _ _ (by decide)]; exact k_248
          have k_266 : σ_255 br 2 = x_246 := by rw [eσ_255, up2_nej _ _ (by decide)]; exact k_265
          have k_267 : σ_255 br 3 = 0 := by rw [eσ_255, up2_nej _ _ (by decide)]; exact k_252
          exact W.zret (v := 1) hx hb hr rfl (fun t ht hW => ⟨⟨1, (σ_255, ρ), rfl, ⟨hB.2.1, hB.2.2, ⟨(show 0 ≤ (1 : Int32).toInt ∧ (1 : Int32).toInt ≤ 1 from ⟨by decide, by decide⟩), (show (σ br 0).toInt * 10000 + (σ br 1).toInt * 1000 + (σ br 2).toInt * 100 + (σ br 3).toInt * 10 + (σ br 4).toInt * 1 ≤ (σ_255 br 0).toInt * 10000 + (σ_255 br 1).toInt * 1000 + (σ_255 br 2).toInt * 100 + (σ_255 br 3).toInt * 10 + (σ_255 br 4).toInt * 1 from (by rw [k_261, k_264, k_266, k_267, k_256]; (first | omega | decide | (simp only [show (0 : Int32).toInt = 0 from by decide]; omega)))), (show (1 : Int32).toInt = 1 → (σ br 0).toInt * 10000 + (σ br 1).toInt * 1000 + (σ br 2).toInt * 100 + (σ br 3).toInt * 10 + (σ br 4).toInt * 1 < (σ_255 br 0).toInt * 10000 + (σ_255 br 1).toInt * 1000 + (σ_255 br 2).toInt * 100 + (σ_255 br 3).toInt * 10 + (σ_255 br 4).toInt * 1 from (fun h => (by rw [k_261, k_264, k_266, k_267, k_256]; (first | omega | (simp only [show (0 : Int32).toInt = 0 from by decide]; omega))))), (show (σ_255 br 0).toInt ≤ (σ bm 0).toInt from (by rw [k_261]; (first | omega | (simp only [show (0 : Int32).toInt = 0 from by decide]; omega)))), (show (σ_255 br 1).toInt ≤ (σ bm 1).toInt from (by rw [k_264]; (first | omega | (simp only [show (0 : Int32).toInt = 0 from by decide]; omega)))), (show (σ_255 br 2).toInt ≤ (σ bm 2).toInt from (by rw [k_266]; (first | omega | (simp only [show (0 : Int32).toInt = 0 from by decide]; omega)))), (show (σ_255 br 3).toInt ≤ (σ bm 3).toInt from (by rw [k_267]; (first | omega | (simp only [show (0 : Int32).toInt = 0 from by decide]; omega)))), (show (σ_255 br 4).toInt ≤ (σ bm 4).toInt from (by rw [k_256]; (first | omega | (simp only [show (0 : Int32).toInt = 0 from by decide]; omega))))⟩⟩, (show TP D cA L T r σ_255 ρ t.heap from by rw [ht]; exact hB.1)⟩, hS.F ht⟩) hS.2.2 dX12_hasNextRow_78
        · skip
          have uc_244 := j_eq c_244
          refine lv_iinc (v := 1) (lv' := [(1, .int 1), (0, .ref h0)]) hx hb dX12_hasNextRow_28 hl (k := 0) rfl (by decide) (by decide) rfl (fun ls hl => ?_)
          refine lv_goto (tgt := 9) hx hb dX12_hasNextRow_31 (by decide) ?_
          refine lv_iload_n hx hb dX12_hasNextRow_9 rfl (lv_at hl 0 rfl) ?_
          refine lv_if_lt (tgt := 34) hx hb dX12_hasNextRow_10 (by decide) (fun c9 => absurd c9 (by decide)) (fun _ => ?_)
          refine lv_aload_n hx hb dX12_hasNextRow_13 rfl (lv_at hl 1 rfl) ?_
          refine t_gk hx hb hts hown hK hB mh0 th0 fq_12_28 hbr mw_6_4 dX12_hasNextRow_14 ?_
          refine lv_iload_n hx hb dX12_hasNextRow_17 rfl (lv_at hl 0 rfl) ?_
          refine t_ai hx hb hK hB mbr tbr ai_75 (fun _ => rfl) (i_in (by decide) (by decide)) dX12_hasNextRow_18 (fun x_268 ex_268 lx_268 ux_268 => ?_)
          have qx_268 : x_268 = (σ br 1) := ex_268.trans rfl
          have qx_268 := qx_268.symm
          subst qx_268
          refine lv_aload_n hx hb dX12_hasNextRow_19 rfl (lv_at hl 1 rfl) ?_
          refine t_gk hx hb hts hown hK hB mh0 th0 fq_12_26 hbm mw_6_2 dX12_hasNextRow_20 ?_
          refine lv_iload_n hx hb dX12_hasNextRow_23 rfl (lv_at hl 0 rfl) ?_
          refine t_ai hx hb hK hB mbm tbm ai_73 (fun _ => rfl) (i_in (by decide) (by decide)) dX12_hasNextRow_24 (fun x_269 ex_269 lx_269 ux_269 => ?_)
          have qx_269 : x_269 = (σ bm 1) := ex_269.trans rfl
          have qx_269 := qx_269.symm
          subst qx_269
          refine lv_icmp_ne (tgt := 34) hx hb dX12_hasNextRow_25 (by decide) (fun c_270 => ?_) (fun c_270 => ?_)
          · skip
            have uc_270 := j_ne c_270
            refine lv_iload_n hx hb dX12_hasNextRow_34 rfl (lv_at hl 0 rfl) ?_
            refine lv_if_ge (tgt := 40) hx hb dX12_hasNextRow_35 (by decide) (fun _ => ?_) (fun c9 => absurd (by decide) c9)
            refine lv_aload_n hx hb dX12_hasNextRow_40 rfl (lv_at hl 1 rfl) ?_
            refine t_gk hx hb hts hown hK hB mh0 th0 fq_12_28 hbr mw_6_4 dX12_hasNextRow_41 ?_
            refine lv_iload_n hx hb dX12_hasNextRow_44 rfl (lv_at hl 0 rfl) ?_
            refine lv_dup2_11 hx hb dX12_hasNextRow_45 rfl rfl ?_
            refine t_ai hx hb hK hB mbr tbr ai_75 (fun _ => rfl) (i_in (by decide) (by decide)) dX12_hasNextRow_46 (fun x_271 ex_271 lx_271 ux_271 => ?_)
            have qx_271 : x_271 = (σ br 1) := ex_271.trans rfl
            have qx_271 := qx_271.symm
            subst qx_271
            refine lv_iconst (v := 1) hx hb dX12_hasNextRow_47 (by decide) ?_
            refine lv_iadd hx hb dX12_hasNextRow_48 ?_
            refine lv_topi (fun x_272 ex_272 => ?_)
            have vx_272 := b_add (rfl : (σ br 1).toInt = _) (by decide : (1 : Int32).toInt = 1) ex_272 (by omega) (by omega)
            refine t_si hx hb hK hLA hB hS mbr tbr ai_75 (i_in (by decide) (by decide)) (by show 0 ≤ _; (first | omega | (subst_vars; omega))) (by show _ ≤ 9; (first | omega | (subst_vars; omega))) (Or.inr (by decide)) dX12_hasNextRow_49 (fun H locs σ_273 eσ_273 hB hS => ?_)
            have k_274 : σ_273 br 1 = x_272 := by rw [eσ_273]; exact up2_same _ _ _ _
            refine lv_iload_n hx hb dX12_hasNextRow_50 rfl (lv_at hl 0 rfl) ?_
            refine lv_iconst (v := 1) hx hb dX12_hasNextRow_51 (by decide) ?_
            refine lv_iadd hx hb dX12_hasNextRow_52 ?_
            refine tp_i (w := 2) (by decide) ?_
            refine lv_istore_n (lv' := [(2, .int 2), (1, .int 1), (0, .ref h0)]) hx hb dX12_hasNextRow_53 rfl hl (by decide) rfl (fun ls hl => ?_)
            refine lv_iload_n hx hb dX12_hasNextRow_54 rfl (lv_at hl 0 rfl) ?_
            refine lv_aload_n hx hb dX12_hasNextRow_55 rfl (lv_at hl 2 rfl) ?_
            refine t_gk hx hb hts hown hK hB mh0 th0 fq_12_20 hb_11 mw_5_236 dX12_hasNextRow_56 ?_
            refine lv_iconst (v := 1) hx hb dX12_hasNextRow_59 (by decide) ?_
            have k_275 : σ_273 b_11 1 = 5 := by rw [eσ_273, up2_nea _ _ (tg_ne tb_11 tbr (by decide))]; exact ex_12.symm
            refine t_aj hx hb hK hB mb_11 tb_11 ai_70 (i_in (by decide) (by decide)) dX12_hasNextRow_60 (fun x_276 ex_276 lx_276 ux_276 => ?_)
            have qx_276 : x_276 = 5 := ex_276.trans k_275
            clear lx_276 ux_276
            subst qx_276
            refine lv_icmp_ge (tgt := 77) hx hb dX12_hasNextRow_61 (by decide) (fun c9 => absurd c9 (by decide)) (fun _ => ?_)
            refine lv_aload_n hx hb dX12_hasNextRow_64 rfl (lv_at hl 2 rfl) ?_
            refine t_gk hx hb hts hown hK hB mh0 th0 fq_12_28 hbr mw_6_4 dX12_hasNextRow_65 ?_
            refine lv_iload_n hx hb dX12_hasNextRow_68 rfl (lv_at hl 0 rfl) ?_
            refine lv_iconst (v := 0) hx hb dX12_hasNextRow_69 (by decide) ?_
            refine t_si hx hb hK hLA hB hS mbr tbr ai_75 (i_in (by decide) (by decide)) (show 0 ≤ (0 : Int32).toInt by decide) (show (0 : Int32).toInt ≤ 9 by decide) (Or.inr (by decide)) dX12_hasNextRow_70 (fun H locs σ_277 eσ_277 hB hS => ?_)
            have k_278 : σ_277 br 2 = 0 := by rw [eσ_277]; exact up2_same _ _ _ _
            refine lv_iinc (v := 3) (lv' := [(2, .int 3), (1, .int 1), (0, .ref h0)]) hx hb dX12_hasNextRow_71 hl (k := 0) rfl (by decide) (by decide) rfl (fun ls hl => ?_)
            refine lv_goto (tgt := 54) hx hb dX12_hasNextRow_74 (by decide) ?_
            refine lv_iload_n hx hb dX12_hasNextRow_54 rfl (lv_at hl 0 rfl) ?_
            refine lv_aload_n hx hb dX12_hasNextRow_55 rfl (lv_at hl 2 rfl) ?_
            refine t_gk hx hb hts hown hK hB mh0 th0 fq_12_20 hb_11 mw_5_236 dX12_hasNextRow_56 ?_
            refine lv_iconst (v := 1) hx hb dX12_hasNextRow_59 (by decide) ?_
            have k_279 : σ_277 b_11 1 = 5 := by rw [eσ_277, up2_nej _ _ (by decide)]; exact k_275
            refine t_aj hx hb hK hB mb_11 tb_11 ai_70 (i_in (by decide) (by decide)) dX12_hasNextRow_60 (fun x_280 ex_280 lx_280 ux_280 => ?_)
            have qx_280 : x_280 = 5 := ex_280.trans k_279
            clear lx_280 ux_280
            subst qx_280
            refine lv_icmp_ge (tgt := 77) hx hb dX12_hasNextRow_61 (by decide) (fun c9 => absurd c9 (by decide)) (fun _ => ?_)
            refine lv_aload_n hx hb dX12_hasNextRow_64 rfl (lv_at hl 2 rfl) ?_
            refine t_gk hx hb hts hown hK hB mh0 th0 fq_12_28 hbr mw_6_4 dX12_hasNextRow_65 ?_
            refine lv_iload_n hx hb dX12_hasNextRow_68 rfl (lv_at hl 0 rfl) ?_
            refine lv_iconst (v := 0) hx hb dX12_hasNextRow_69 (by decide) ?_
            refine t_si hx hb hK hLA hB hS mbr tbr ai_75 (i_in (by decide) (by decide)) (show 0 ≤ (0 : Int32).toInt by decide) (show (0 : Int32).toInt ≤ 9 by decide) (Or.inr (by decide)) dX12_hasNextRow_70 (fun H locs σ_281 eσ_281 hB hS => ?_)
            have k_282 : σ_281 br 3 = 0 := by rw [eσ_281]; exact up2_same _ _ _ _
            refine lv_iinc (v := 4) (lv' := [(2, .int 4), (1, .int 1), (0, .ref h0)]) hx hb dX12_hasNextRow_71 hl (k := 0) rfl (by decide) (by decide) rfl (fun ls hl => ?_)
            refine lv_goto (tgt := 54) hx hb dX12_hasNextRow_74 (by decide) ?_
            refine lv_iload_n hx hb dX12_hasNextRow_54 rfl (lv_at hl 0 rfl) ?_
            refine lv_aload_n hx hb dX12_hasNextRow_55 rfl (lv_at hl 2 rfl) ?_
            refine t_gk hx hb hts hown hK hB mh0 th0 fq_12_20 hb_11 mw_5_236 dX12_hasNextRow_56 ?_
            refine lv_iconst (v := 1) hx hb dX12_hasNextRow_59 (by decide) ?_
            have k_283 : σ_281 b_11 1 = 5 := by rw [eσ_281, up2_nej _ _ (by decide)]; exact k_279
            refine t_aj hx hb hK hB mb_11 tb_11 ai_70 (i_in (by decide) (by decide)) dX12_hasNextRow_60 (fun x_284 ex_284 lx_284 ux_284 => ?_)
            have qx_284 : x_284 = 5 := ex_284.trans k_283
            clear lx_284 ux_284
            subst qx_284
            refine lv_icmp_ge (tgt := 77) hx hb dX12_hasNextRow_61 (by decide) (fun c9 => absurd c9 (by decide)) (fun _ => ?_)
            refine lv_aload_n hx hb dX12_hasNextRow_64 rfl (lv_at hl 2 rfl) ?_
            refine t_gk hx hb hts hown hK hB mh0 th0 fq_12_28 hbr mw_6_4 dX12_hasNextRow_65 ?_
            refine lv_iload_n hx hb dX12_hasNextRow_68 rfl (lv_at hl 0 rfl) ?_
            refine lv_iconst (v := 0) hx hb dX12_hasNextRow_69 (by decide) ?_
            refine t_si hx hb hK hLA hB hS mbr tbr ai_75 (i_in (by decide) (by decide)) (show 0 ≤ (0 : Int32).toInt by decide) (show (0 : Int32).toInt ≤ 9 by decide) (Or.inr (by decide)) dX12_hasNextRow_70 (fun H locs σ_285 eσ_285 hB hS => ?_)
            have k_286 : σ_285 br 4 = 0 := by rw [eσ_285]; exact up2_same _ _ _ _
            refine lv_iinc (v := 5) (lv' := [(2, .int 5), (1, .int 1), (0, .ref h0)]) hx hb dX12_hasNextRow_71 hl (k := 0) rfl (by decide) (by decide) rfl (fun ls hl => ?_)
            refine lv_goto (tgt := 54) hx hb dX12_hasNextRow_74 (by decide) ?_
            refine lv_iload_n hx hb dX12_hasNextRow_54 rfl (lv_at hl 0 rfl) ?_
            refine lv_aload_n hx hb dX12_hasNextRow_55 rfl (lv_at hl 2 rfl) ?_
            refine t_gk hx hb hts hown hK hB mh0 th0 fq_12_20 hb_11 mw_5_236 dX12_hasNextRow_56 ?_
            refine lv_iconst (v := 1) hx hb dX12_hasNextRow_59 (by decide) ?_
            have k_287 : σ_285 b_11 1 = 5 := by rw [eσ_285, up2_nej _ _ (by decide)]; exact k_283
            refine t_aj hx hb hK hB mb_11 tb_11 ai_70 (i_in (by decide) (by decide)) dX12_hasNextRow_60 (fun x_288 ex_288 lx_288 ux_288 => ?_)
            have qx_288 : x_288 = 5 := ex_288.trans k_287
            clear lx_288 ux_288
            subst qx_288
            refine lv_icmp_ge (tgt := 77) hx hb dX12_hasNextRow_61 (by decide) (fun _ => ?_) (fun c9 => absurd (by decide) c9)
            refine lv_iconst (v := 1) hx hb dX12_hasNextRow_77 (by decide) ?_
            have k_289 : σ_273 br 0 = (σ br 0) := by rw [eσ_273, up2_nej _ _ (by decide)]
            have k_290 : σ_277 br 0 = (σ br 0) := by rw [eσ_277, up2_nej _ _ (by decide)]; exact k_289
            have k_291 : σ_281 br 0 = (σ br 0) := by rw [eσ_281, up2_nej _ _ (by decide)]; exact k_290
            have k_292 : σ_285 br 0 = (σ br 0) := by rw [eσ_285, up2_nej _ _ (by decide)]; exact k_291
            have k_293 : σ_277 br 1 = x_272 := by rw [eσ_277, up2_nej _ _ (by decide)]; exact k_274
            have k_294 : σ_281 br 1 = x_272 := by rw [eσ_281, up2_nej _ _ (by decide)]; exact k_293
            have k_295 : σ_285 br 1 = x_272 := by rw [eσ_285, up2_nej _ _ (by decide)]; exact k_294
            have k_296 : σ_281 br 2 = 0 := by rw [eσ_281, up2_nej _ _ (by decide)]; exact k_278
            have k_297 : σ_285 br 2 = 0 := by rw [eσ_285, up2_nej _ _ (by decide)]; exact k_296
            have k_298 : σ_285 br 3 = 0 := by rw [eσ_285, up2_nej _ _ (by decide)]; exact k_282
            exact W.zret (v := 1) hx hb hr rfl (fun t ht hW => ⟨⟨1, (σ_285, ρ), rfl, ⟨hB.2.1, hB.2.2, ⟨(show 0 ≤ (1 : Int32).toInt ∧ (1 : Int32).toInt ≤ 1 from ⟨by decide, by decide⟩), (show (σ br 0).toInt * 10000 + (σ br 1).toInt * 1000 + (σ br 2).toInt * 100 + (σ br 3).toInt * 10 + (σ br 4).toInt * 1 ≤ (σ_285 br 0).toInt * 10000 + (σ_285 br 1).toInt * 1000 + (σ_285 br 2).toInt * 100 + (σ_285 br 3).toInt * 10 + (σ_285 br 4).toInt * 1 from (by rw [k_292, k_295, k_297, k_298, k_286]; (first | omega | decide | (simp only [show (0 : Int32).toInt = 0 from by decide]; omega)))), (show (1 : Int32).toInt = 1 → (σ br 0).toInt * 10000 + (σ br 1).toInt * 1000 + (σ br 2).toInt * 100 + (σ br 3).toInt * 10 + (σ br 4).toInt * 1 < (σ_285 br 0).toInt * 10000 + (σ_285 br 1).toInt * 1000 + (σ_285 br 2).toInt * 100 + (σ_285 br 3).toInt * 10 + (σ_285 br 4).toInt * 1 from (fun h => (by rw [k_292, k_295, k_297, k_298, k_286]; (first | omega | (simp only [show (0 : Int32).toInt = 0 from by decide]; omega))))), (show (σ_285 br 0).toInt ≤ (σ bm 0).toInt from (by rw [k_292]; (first | omega | (simp only [show (0 : Int32).toInt = 0 from by decide]; omega)))), (show (σ_285 br 1).toInt ≤ (σ bm 1).toInt from (by rw [k_295]; (first | omega | (simp only [show (0 : Int32).toInt = 0 from by decide]; omega)))), (show (σ_285 br 2).toInt ≤ (σ bm 2).toInt from (by rw [k_297]; (first | omega | (simp only [show (0 : Int32).toInt = 0 from by decide]; omega)))), (show (σ_285 br 3).toInt ≤ (σ bm 3).toInt from (by rw [k_298]; (first | omega | (simp only [show (0 : Int32).toInt = 0 from by decide]; omega)))), (show (σ_285 br 4).toInt ≤ (σ bm 4).toInt from (by rw [k_286]; (first | omega | (simp only [show (0 : Int32).toInt = 0 from by decide]; omega))))⟩⟩, (show TP D cA L T r σ_285 ρ t.heap from by rw [ht]; exact hB.1)⟩, hS.F ht⟩) hS.2.2 dX12_hasNextRow_78
          · skip
            have uc_270 := j_eq c_270
            refine lv_iinc (v := 0) (lv' := [(1, .int 0), (0, .ref h0)]) hx hb dX12_hasNextRow_28 hl (k := 0) rfl (by decide) (by decide) rfl (fun ls hl => ?_)
            refine lv_goto (tgt := 9) hx hb dX12_hasNextRow_31 (by decide) ?_
            refine lv_iload_n hx hb dX12_hasNextRow_9 rfl (lv_at hl 0 rfl) ?_
            refine lv_if_lt (tgt := 34) hx hb dX12_hasNextRow_10 (by decide) (fun c9 => absurd c9 (by decide)) (fun _ => ?_)
            refine lv_aload_n hx hb dX12_hasNextRow_13 rfl (lv_at hl 1 rfl) ?_
            refine t_gk hx hb hts hown hK hB mh0 th0 fq_12_28 hbr mw_6_4 dX12_hasNextRow_14 ?_
            refine lv_iload_n hx hb dX12_hasNextRow_17 rfl (lv_at hl 0 rfl) ?_
            refine t_ai hx hb hK hB mbr tbr ai_75 (fun _ => rfl) (i_in (by decide) (by decide)) dX12_hasNextRow_18 (fun x_299 ex_299 lx_299 ux_299 => ?_)
            have qx_299 : x_299 = (σ br 0) := ex_299.trans rfl
            have qx_299 := qx_299.symm
            subst qx_299
            refine lv_aload_n hx hb dX12_hasNextRow_19 rfl (lv_at hl 1 rfl) ?_
            refine t_gk hx hb hts hown hK hB mh0 th0 fq_12_26 hbm mw_6_2 dX12_hasNextRow_20 ?_
            refine lv_iload_n hx hb dX12_hasNextRow_23 rfl (lv_at hl 0 rfl) ?_
            refine t_ai hx hb hK hB mbm tbm ai_73 (fun _ => rfl) (i_in (by decide) (by decide)) dX12_hasNextRow_24 (fun x_300 ex_300 lx_300 ux_300 => ?_)
            have qx_300 : x_300 = (σ bm 0) := ex_300.trans rfl
            have qx_300 := qx_300.symm
            subst qx_300
            refine lv_icmp_ne (tgt := 34) hx hb dX12_hasNextRow_25 (by decide) (fun c_301 => ?_) (fun c_301 => ?_)
            · skip
              have uc_301 := j_ne c_301
              refine lv_iload_n hx hb dX12_hasNextRow_34 rfl (lv_at hl 0 rfl) ?_
              refine lv_if_ge (tgt := 40) hx hb dX12_hasNextRow_35 (by decide) (fun _ => ?_) (fun c9 => absurd (by decide) c9)
              refine lv_aload_n hx hb dX12_hasNextRow_40 rfl (lv_at hl 1 rfl) ?_
              refine t_gk hx hb hts hown hK hB mh0 th0 fq_12_28 hbr mw_6_4 dX12_hasNextRow_41 ?_
              refine lv_iload_n hx hb dX12_hasNextRow_44 rfl (lv_at hl 0 rfl) ?_
              refine lv_dup2_11 hx hb dX12_hasNextRow_45 rfl rfl ?_
              refine t_ai hx hb hK hB mbr tbr ai_75 (fun _ => rfl) (i_in (by decide) (by decide)) dX12_hasNextRow_46 (fun x_302 ex_302 lx_302 ux_302 => ?_)
              have qx_302 : x_302 = (σ br 0) := ex_302.trans rfl
              have qx_302 := qx_302.symm
              subst qx_302
              refine lv_iconst (v := 1) hx hb dX12_hasNextRow_47 (by decide) ?_
              refine lv_iadd hx hb dX12_hasNextRow_48 ?_
              refine lv_topi (fun x_303 ex_303 => ?_)
              have vx_303 := b_add (rfl : (σ br 0).toInt = _) (by decide : (1 : Int32).toInt = 1) ex_303 (by omega) (by omega)
              refine t_si hx hb hK hLA hB hS mbr tbr ai_75 (i_in (by decide) (by decide)) (by show 0 ≤ _; (first | omega | (subst_vars; omega))) (by show _ ≤ 9; (first | omega | (subst_vars; omega))) (Or.inr (by decide)) dX12_hasNextRow_49 (fun H locs σ_304 eσ_304 hB hS => ?_)
              have k_305 : σ_304 br 0 = x_303 := by rw [eσ_304]; exact up2_same _ _ _ _
              refine lv_iload_n hx hb dX12_hasNextRow_50 rfl (lv_at hl 0 rfl) ?_
              refine lv_iconst (v := 1) hx hb dX12_hasNextRow_51 (by decide) ?_
              refine lv_iadd hx hb dX12_hasNextRow_52 ?_
              refine tp_i (w := 1) (by decide) ?_
              refine lv_istore_n (lv' := [(2, .int 1), (1, .int 0), (0, .ref h0)]) hx hb dX12_hasNextRow_53 rfl hl (by decide) rfl (fun ls hl => ?_)
              refine lv_iload_n hx hb dX12_hasNextRow_54 rfl (lv_at hl 0 rfl) ?_
              refine lv_aload_n hx hb dX12_hasNextRow_55 rfl (lv_at hl 2 rfl) ?_
              refine t_gk hx hb hts hown hK hB mh0 th0 fq_12_20 hb_11 mw_5_236 dX12_hasNextRow_56 ?_
              refine lv_iconst (v := 1) hx hb dX12_hasNextRow_59 (by decide) ?_
              have k_306 : σ_304 b_11 1 = 5 := by rw [eσ_304, up2_nej _ _ (by decide)]; exact ex_12.symm
              refine t_aj hx hb hK hB mb_11 tb_11 ai_70 (i_in (by decide) (by decide)) dX12_hasNextRow_60 (fun x_307 ex_307 lx_307 ux_307 => ?_)
              have qx_307 : x_307 = 5 := ex_307.trans k_306
              clear lx_307 ux_307
              subst qx_307
              refine lv_icmp_ge (tgt := 77) hx hb dX12_hasNextRow_61 (by decide) (fun c9 => absurd c9 (by decide)) (fun _ => ?_)
              refine lv_aload_n hx hb dX12_hasNextRow_64 rfl (lv_at hl 2 rfl) ?_
              refine t_gk hx hb hts hown hK hB mh0 th0 fq_12_28 hbr mw_6_4 dX12_hasNextRow_65 ?_
              refine lv_iload_n hx hb dX12_hasNextRow_68 rfl (lv_at hl 0 rfl) ?_
              refine lv_iconst (v := 0) hx hb dX12_hasNextRow_69 (by decide) ?_
              refine t_si hx hb hK hLA hB hS mbr tbr ai_75 (i_in (by decide) (by decide)) (show 0 ≤ (0 : Int32).toInt by decide) (show (0 : Int32).toInt ≤ 9 by decide) (Or.inr (by decide)) dX12_hasNextRow_70 (fun H locs σ_308 eσ_308 hB hS => ?_)
              have k_309 : σ_308 br 1 = 0 := by rw [eσ_308]; exact up2_same _ _ _ _
              refine lv_iinc (v := 2) (lv' := [(2, .int 2), (1, .int 0), (0, .ref h0)]) hx hb dX12_hasNextRow_71 hl (k := 0) rfl (by decide) (by decide) rfl (fun ls hl => ?_)
              refine lv_goto (tgt := 54) hx hb dX12_hasNextRow_74 (by decide) ?_
              refine lv_iload_n hx hb dX12_hasNextRow_54 rfl (lv_at hl 0 rfl) ?_
              refine lv_aload_n hx hb dX12_hasNextRow_55 rfl (lv_at hl 2 rfl) ?_
              refine t_gk hx hb hts hown hK hB mh0 th0 fq_12_20 hb_11 mw_5_236 dX12_hasNextRow_56 ?_
              refine lv_iconst (v := 1) hx hb dX12_hasNextRow_59 (by decide) ?_
              have k_310 : σ_308 b_11 1 = 5 := by rw [eσ_308, up2_nea _ _ (tg_ne tb_11 tbr (by decide))]; exact k_306
              refine t_aj hx hb hK hB mb_11 tb_11 ai_70 (i_in (by decide) (by decide)) dX12_hasNextRow_60 (fun x_311 ex_311 lx_311 ux_311 => ?_)
              have qx_311 : x_311 = 5 := ex_311.trans k_310
              clear lx_311 ux_311
              subst qx_311
              refine lv_icmp_ge (tgt := 77) hx hb dX12_hasNextRow_61 (by decide) (fun c9 => absurd c9 (by decide)) (fun _ => ?_)
              refine lv_aload_n hx hb dX12_hasNextRow_64 rfl (lv_at hl 2 rfl) ?_
              refine t_gk hx hb hts hown hK hB mh0 th0 fq_12_28 hbr mw_6_4 dX12_hasNextRow_65 ?_
              refine lv_iload_n hx hb dX12_hasNextRow_68 rfl (lv_at hl 0 rfl) ?_
              refine lv_iconst (v := 0) hx hb dX12_hasNextRow_69 (by decide) ?_
              refine t_si hx hb hK hLA hB hS mbr tbr ai_75 (i_in (by decide) (by decide)) (show 0 ≤ (0 : Int32).toInt by decide) (show (0 : Int32).toInt ≤ 9 by decide) (Or.inr (by decide)) dX12_hasNextRow_70 (fun H locs σ_312 eσ_312 hB hS => ?_)
              have k_313 : σ_312 br 2 = 0 := by rw [eσ_312]; exact up2_same _ _ _ _
              refine lv_iinc (v := 3) (lv' := [(2, .int 3), (1, .int 0), (0, .ref h0)]) hx hb dX12_hasNextRow_71 hl (k := 0) rfl (by decide) (by decide) rfl (fun ls hl => ?_)
              refine lv_goto (tgt := 54) hx hb dX12_hasNextRow_74 (by decide) ?_
              refine lv_iload_n hx hb dX12_hasNextRow_54 rfl (lv_at hl 0 rfl) ?_
              refine lv_aload_n hx hb dX12_hasNextRow_55 rfl (lv_at hl 2 rfl) ?_
              refine t_gk hx hb hts hown hK hB mh0 th0 fq_12_20 hb_11 mw_5_236 dX12_hasNextRow_56 ?_
              refine lv_iconst (v := 1) hx hb dX12_hasNextRow_59 (by decide) ?_
              have k_314 : σ_312 b_11 1 = 5 := by rw [eσ_312, up2_nej _ _ (by decide)]; exact k_310
              refine t_aj hx hb hK hB mb_11 tb_11 ai_70 (i_in (by decide) (by decide)) dX12_hasNextRow_60 (fun x_315 ex_315 lx_315 ux_315 => ?_)
              have qx_315 : x_315 = 5 := ex_315.trans k_314
              clear lx_315 ux_315
              subst qx_315
              refine lv_icmp_ge (tgt := 77) hx hb dX12_hasNextRow_61 (by decide) (fun c9 => absurd c9 (by decide)) (fun _ => ?_)
              refine lv_aload_n hx hb dX12_hasNextRow_64 rfl (lv_at hl 2 rfl) ?_
              refine t_gk hx hb hts hown hK hB mh0 th0 fq_12_28 hbr mw_6_4 dX12_hasNextRow_65 ?_
              refine lv_iload_n hx hb dX12_hasNextRow_68 rfl (lv_at hl 0 rfl) ?_
              refine lv_iconst (v := 0) hx hb dX12_hasNextRow_69 (by decide) ?_
              refine t_si hx hb hK hLA hB hS mbr tbr ai_75 (i_in (by decide) (by decide)) (show 0 ≤ (0 : Int32).toInt by decide) (show (0 : Int32).toInt ≤ 9 by decide) (Or.inr (by decide)) dX12_hasNextRow_70 (fun H locs σ_316 eσ_316 hB hS => ?_)
              have k_317 : σ_316 br 3 = 0 := by rw [eσ_316]; exact up2_same _ _ _ _
              refine lv_iinc (v := 4) (lv' := [(2, .int 4), (1, .int 0), (0, .ref h0)]) hx hb dX12_hasNextRow_71 hl (k := 0) rfl (by decide) (by decide) rfl (fun ls hl => ?_)
              refine lv_goto (tgt := 54) hx hb dX12_hasNextRow_74 (by decide) ?_
              refine lv_iload_n hx hb dX12_hasNextRow_54 rfl (lv_at hl 0 rfl) ?_
              refine lv_aload_n hx hb dX12_hasNextRow_55 rfl (lv_at hl 2 rfl) ?_
              refine t_gk hx hb hts hown hK hB mh0 th0 fq_12_20 hb_11 mw_5_236 dX12_hasNextRow_56 ?_
              refine lv_iconst (v := 1) hx hb dX12_hasNextRow_59 (by decide) ?_
              have k_318 : σ_316 b_11 1 = 5 := by rw [eσ_316, up2_nej _ _ (by decide)]; exact k_314
              refine t_aj hx hb hK hB mb_11 tb_11 ai_70 (i_in (by decide) (by decide)) dX12_hasNextRow_60 (fun x_319 ex_319 lx_319 ux_319 => ?_)
              have qx_319 : x_319 = 5 := ex_319.trans k_318
              clear lx_319 ux_319
              subst qx_319
              refine lv_icmp_ge (tgt := 77) hx hb dX12_hasNextRow_61 (by decide) (fun c9 => absurd c9 (by decide)) (fun _ => ?_)
              refine lv_aload_n hx hb dX12_hasNextRow_64 rfl (lv_at hl 2 rfl) ?_
              refine t_gk hx hb hts hown hK hB mh0 th0 fq_12_28 hbr mw_6_4 dX12_hasNextRow_65 ?_
              refine lv_iload_n hx hb dX12_hasNextRow_68 rfl (lv_at hl 0 rfl) ?_
              refine lv_iconst (v := 0) hx hb dX12_hasNextRow_69 (by decide) ?_
              refine t_si hx hb hK hLA hB hS mbr tbr ai_75 (i_in (by decide) (by decide)) (show 0 ≤ (0 : Int32).toInt by decide) (show (0 : Int32).toInt ≤ 9 by decide) (Or.inr (by decide)) dX12_hasNextRow_70 (fun H locs σ_320 eσ_320 hB hS => ?_)
              have k_321 : σ_320 br 4 = 0 := by rw [eσ_320]; exact up2_same _ _ _ _
              refine lv_iinc (v := 5) (lv' := [(2, .int 5), (1, .int 0), (0, .ref h0)]) hx hb dX12_hasNextRow_71 hl (k := 0) rfl (by decide) (by decide) rfl (fun ls hl => ?_)
              refine lv_goto (tgt := 54) hx hb dX12_hasNextRow_74 (by decide) ?_
              refine lv_iload_n hx hb dX12_hasNextRow_54 rfl (lv_at hl 0 rfl) ?_
              refine lv_aload_n hx hb dX12_hasNextRow_55 rfl (lv_at hl 2 rfl) ?_
              refine t_gk hx hb hts hown hK hB mh0 th0 fq_12_20 hb_11 mw_5_236 dX12_hasNextRow_56 ?_
              refine lv_iconst (v := 1) hx hb dX12_hasNextRow_59 (by decide) ?_
              have k_322 : σ_320 b_11 1 = 5 := by rw [eσ_320, up2_nej _ _ (by decide)]; exact k_318
              refine t_aj hx hb hK hB mb_11 tb_11 ai_70 (i_in (by decide) (by decide)) dX12_hasNextRow_60 (fun x_323 ex_323 lx_323 ux_323 => ?_)
              have qx_323 : x_323 = 5 := ex_323.trans k_322
              clear lx_323 ux_323
              subst qx_323
              refine lv_icmp_ge (tgt := 77) hx hb dX12_hasNextRow_61 (by decide) (fun _ => ?_) (fun c9 => absurd (by decide) c9)
              refine lv_iconst (v := 1) hx hb dX12_hasNextRow_77 (by decide) ?_
              have k_324 : σ_308 br 0 = x_303 := by rw [eσ_308, up2_nej _ _ (by decide)]; exact k_305
              have k_325 : σ_312 br 0 = x_303 := by rw [eσ_312, up2_nej _ _ (by decide)]; exact k_324
              have k_326 : σ_316 br 0 = x_303 := by rw [eσ_316, up2_nej _ _ (by decide)]; exact k_325
              have k_327 : σ_320 br 0 = x_303 := by rw [eσ_320, up2_nej _ _ (by decide)]; exact k_326
              have k_328 : σ_312 br 1 = 0 := by rw [eσ_312, up2_nej _ _ (by decide)]; exact k_309
              have k_329 : σ_316 br 1 = 0 := by rw [eσ_316, up2_nej _ _ (by decide)]; exact k_328
              have k_330 : σ_320 br 1 = 0 := by rw [eσ_320, up2_nej _ _ (by decide)]; exact k_329
              have k_331 : σ_316 br 2 = 0 := by rw [eσ_316, up2_nej _ _ (by decide)]; exact k_313
              have k_332 : σ_320 br 2 = 0 := by rw [eσ_320, up2_nej _ _ (by decide)]; exact k_331
              have k_333 : σ_320 br 3 = 0 := by rw [eσ_320, up2_nej _ _ (by decide)]; exact k_317
              exact W.zret (v := 1) hx hb hr rfl (fun t ht hW => ⟨⟨1, (σ_320, ρ), rfl, ⟨hB.2.1, hB.2.2, ⟨(show 0 ≤ (1 : Int32).toInt ∧ (1 : Int32).toInt ≤ 1 from ⟨by decide, by decide⟩), (show (σ br 0).toInt * 10000 + (σ br 1).toInt * 1000 + (σ br 2).toInt * 100 + (σ br 3).toInt * 10 + (σ br 4).toInt * 1 ≤ (σ_320 br 0).toInt * 10000 + (σ_320 br 1).toInt * 1000 + (σ_320 br 2).toInt * 100 + (σ_320 br 3).toInt * 10 + (σ_320 br 4).toInt * 1 from (by rw [k_327, k_330, k_332, k_333, k_321]; (first | omega | decide | (simp only [show (0 : Int32).toInt = 0 from by decide]; omega)))), (show (1 : Int32).toInt = 1 → (σ br 0).toInt * 10000 + (σ br 1).toInt * 1000 + (σ br 2).toInt * 100 + (σ br 3).toInt * 10 + (σ br 4).toInt * 1 < (σ_320 br 0).toInt * 10000 + (σ_320 br 1).toInt * 1000 + (σ_320 br 2).toInt * 100 + (σ_320 br 3).toInt * 10 + (σ_320 br 4).toInt * 1 from (fun h => (by rw [k_327, k_330, k_332, k_333, k_321]; (first | omega | (simp only [show (0 : Int32).toInt = 0 from by decide]; omega))))), (show (σ_320 br 0).toInt ≤ (σ bm 0).toInt from (by rw [k_327]; (first | omega | (simp only [show (0 : Int32).toInt = 0 from by decide]; omega)))), (show (σ_320 br 1).toInt ≤ (σ bm 1).toInt from (by rw [k_330]; (first | omega | (simp only [show (0 : Int32).toInt = 0 from by decide]; omega)))), (show (σ_320 br 2).toInt ≤ (σ bm 2).toInt from (by rw [k_332]; (first | omega | (simp only [show (0 : Int32).toInt = 0 from by decide]; omega)))), (show (σ_320 br 3).toInt ≤ (σ bm 3).toInt from (by rw [k_333]; (first | omega | (simp only [show (0 : Int32).toInt = 0 from by decide]; omega)))), (show (σ_320 br 4).toInt ≤ (σ bm 4).toInt from (by rw [k_321]; (first | omega | (simp only [show (0 : Int32).toInt = 0 from by decide]; omega))))⟩⟩, (show TP D cA L T r σ_320 ρ t.heap from by rw [ht]; exact hB.1)⟩, hS.F ht⟩) hS.2.2 dX12_hasNextRow_78
            · skip
              have uc_301 := j_eq c_301
              refine lv_iinc (v := (-1)) (lv' := [(1, .int (-1)), (0, .ref h0)]) hx hb dX12_hasNextRow_28 hl (k := 0) rfl (by decide) (by decide) rfl (fun ls hl => ?_)
              refine lv_goto (tgt := 9) hx hb dX12_hasNextRow_31 (by decide) ?_
              refine lv_iload_n hx hb dX12_hasNextRow_9 rfl (lv_at hl 0 rfl) ?_
              refine lv_if_lt (tgt := 34) hx hb dX12_hasNextRow_10 (by decide) (fun _ => ?_) (fun c9 => absurd (by decide) c9)
              refine lv_iload_n hx hb dX12_hasNextRow_34 rfl (lv_at hl 0 rfl) ?_
              refine lv_if_ge (tgt := 40) hx hb dX12_hasNextRow_35 (by decide) (fun c9 => absurd c9 (by decide)) (fun _ => ?_)
              refine lv_iconst (v := 0) hx hb dX12_hasNextRow_38 (by decide) ?_
              exact W.zret (v := 0) hx hb hr rfl (fun t ht hW => ⟨⟨0, (σ, ρ), rfl, ⟨hB.2.1, hB.2.2, ⟨(show 0 ≤ (0 : Int32).toInt ∧ (0 : Int32).toInt ≤ 1 from ⟨by decide, by decide⟩), (show (σ br 0).toInt * 10000 + (σ br 1).toInt * 1000 + (σ br 2).toInt * 100 + (σ br 3).toInt * 10 + (σ br 4).toInt * 1 ≤ (σ br 0).toInt * 10000 + (σ br 1).toInt * 1000 + (σ br 2).toInt * 100 + (σ br 3).toInt * 10 + (σ br 4).toInt * 1 from (by (first | omega | decide | (simp only [show (0 : Int32).toInt = 0 from by decide]; omega)))), (show (0 : Int32).toInt = 1 → (σ br 0).toInt * 10000 + (σ br 1).toInt * 1000 + (σ br 2).toInt * 100 + (σ br 3).toInt * 10 + (σ br 4).toInt * 1 < (σ br 0).toInt * 10000 + (σ br 1).toInt * 1000 + (σ br 2).toInt * 100 + (σ br 3).toInt * 10 + (σ br 4).toInt * 1 from (fun h => absurd h (by decide))), (show (σ br 0).toInt ≤ (σ bm 0).toInt from (by (first | omega | (simp only [show (0 : Int32).toInt = 0 from by decide]; omega)))), (show (σ br 1).toInt ≤ (σ bm 1).toInt from (by (first | omega | (simp only [show (0 : Int32).toInt = 0 from by decide]; omega)))), (show (σ br 2).toInt ≤ (σ bm 2).toInt from (by (first | omega | (simp only [show (0 : Int32).toInt = 0 from by decide]; omega)))), (show (σ br 3).toInt ≤ (σ bm 3).toInt from (by (first | omega | (simp only [show (0 : Int32).toInt = 0 from by decide]; omega)))), (show (σ br 4).toInt ≤ (σ bm 4).toInt from (by (first | omega | (simp only [show (0 : Int32).toInt = 0 from by decide]; omega))))⟩⟩, (show TP D cA L T r σ ρ t.heap from by rw [ht]; exact hB.1)⟩, hS.F ht⟩) hS.2.2 dX12_hasNextRow_39
set_option maxHeartbeats 4000000 in
set_option maxRecDepth 100000 in
theorem cz_X12_mostAgain (l : Launch) (D : va_G) (cA : Nat → ClassId) (L : List Nat) (T : Nat → Nat) (r : Rg) (hG : GR L T r) (hL : L.Nodup) (σ : Sg) (ρ : Lg) (hW : WT L ry T σ) (sz : Nat) (h0 : Nat) (mh0 : h0 ∈ L) (th0 : T h0 = 12) (ba : Nat) (hba : r h0 32 = some ba) (mba : ba ∈ L) (tba : T ba = 77) (bm : Nat) (hbm : r h0 26 = some bm) (mbm : bm ∈ L) (tbm : T bm = 73) : Met l yX12_mostAgain (.code yX12_mostAgain cX12_mostAgain 2 none :: wsA) ({ frames := 0, cells := 0, slots := 0, locals := 0 }) (PR D cA L T r σ ρ sz [.ref h0]) (QV D cA L T r ry [(73, 1000)] σ sz (fun σ1 => (σ1 bm 0 = σ ba 0) ∧ (σ1 bm 1 = σ ba 1) ∧ (σ1 bm 2 = σ ba 2) ∧ (σ1 bm 3 = σ ba 3) ∧ (σ1 bm 4 = σ ba 4))) 0 0 (dm L sz) := by
  refine Met.ofW (cc := cX12_mostAgain) (maxL := 2) (ret := none) (by decide) rfl ?_
  intro p e s m args below meth c s₁ B hml hv
  obtain ⟨rfl, hsz, hP, hK, hN⟩ := hv
  have hx := B.exec
  have hb := B.bytes
  have hr := B.returns
  have hts : ∀ w ∈ wsA, w.before _ s = true := fun w h => atoms_spec (ws := .code yX12_mostAgain cX12_mostAgain 2 none :: wsA) B.pre w (List.mem_cons_of_mem _ h)
  have hown : s.vm.findClass RX12 = some m.cls := findClass_of_methodNamed B.named
  subst hsz
  have hLA : LA (dm L s.heap.size) L := ⟨hL, fun a h => Or.inl h⟩
  have hA : ∀ q : Nat, s.heap.size ≤ q → dm L s.heap.size q := fun q h => Or.inr h
  have hS : va_S (dm L s.heap.size) s.heap s.heap [] := va_S.rf
  have hB : TS D cA L T r ry [(73, 1000)] σ σ ρ s.heap := ⟨hP, hW, FR.rf⟩
  have hl := lv_entry ([.ref h0]) (n := 2) (Nat.le_of_ble_eq_true rfl)
  rw [lg_entry_eq]
  generalize (lg_sl ([.ref h0]) ++ List.replicate (2 - (lg_sl ([.ref h0])).length) Slot.unset).toArray = ls at hl ⊢
  have hl : lv_has ls 2 [(0, .ref h0)] := hl
  have w_1 : 0 ≤ (σ ba 0).toInt ∧ (σ ba 0).toInt ≤ 9 := by have z := hB.2.1 ba mba 0; rw [tba] at z; exact z
  have w_2 : 0 ≤ (σ ba 1).toInt ∧ (σ ba 1).toInt ≤ 9 := by have z := hB.2.1 ba mba 1; rw [tba] at z; exact z
  have w_3 : 0 ≤ (σ ba 2).toInt ∧ (σ ba 2).toInt ≤ 9 := by have z := hB.2.1 ba mba 2; rw [tba] at z; exact z
  have w_4 : 0 ≤ (σ ba 3).toInt ∧ (σ ba 3).toInt ≤ 9 := by have z := hB.2.1 ba mba 3; rw [tba] at z; exact z
  have w_5 : 0 ≤ (σ ba 4).toInt ∧ (σ ba 4).toInt ≤ 9 := by have z := hB.2.1 ba mba 4; rw [tba] at z; exact z
  refine lv_iconst (v := 0) hx hb dX12_mostAgain_0 (by decide) ?_
  refine lv_istore_n (lv' := [(1, .int 0), (0, .ref h0)]) hx hb dX12_mostAgain_1 rfl hl (by decide) rfl (fun ls hl => ?_)
  refine lv_iload_n hx hb dX12_mostAgain_2 rfl (lv_at hl 0 rfl) ?_
  refine lv_iconst (v := 5) hx hb dX12_mostAgain_3 (by decide) ?_
  refine lv_icmp_ge (tgt := 25) hx hb dX12_mostAgain_4 (by decide) (fun c9 => absurd c9 (by decide)) (fun _ => ?_)
  refine lv_aload_n hx hb dX12_mostAgain_7 rfl (lv_at hl 1 rfl) ?_
  refine t_gk hx hb hts hown hK hB mh0 th0 fq_12_26 hbm mw_6_2 dX12_mostAgain_8 ?_
  refine lv_iload_n hx hb dX12_mostAgain_11 rfl (lv_at hl 0 rfl) ?_
  refine lv_aload_n hx hb dX12_mostAgain_12 rfl (lv_at hl 1 rfl) ?_
  refine t_gk hx hb hts hown hK hB mh0 th0 fq_12_32 hba mw_6_8 dX12_mostAgain_13 ?_
  refine lv_iload_n hx hb dX12_mostAgain_16 rfl (lv_at hl 0 rfl) ?_
  refine t_ai hx hb hK hB mba tba ai_77 (fun _ => rfl) (i_in (by decide) (by decide)) dX12_mostAgain_17 (fun x_6 ex_6 lx_6 ux_6 => ?_)
  have qx_6 : x_6 = (σ ba 0) := ex_6.trans rfl
  have qx_6 := qx_6.symm
  subst qx_6
  refine t_si hx hb hK hLA hB hS mbm tbm ai_73 (i_in (by decide) (by decide)) (i_lo _) (i_hi _) (Or.inr (by decide)) dX12_mostAgain_18 (fun H locs σ_7 eσ_7 hB hS => ?_)
  have k_8 : σ_7 bm 0 = (σ ba 0) := by rw [eσ_7]; exact up2_same _ _ _ _
  refine lv_iinc (v := 1) (lv' := [(1, .int 1), (0, .ref h0)]) hx hb dX12_mostAgain_19 hl (k := 0) rfl (by decide) (by decide) rfl (fun ls hl => ?_)
  refine lv_goto (tgt := 2) hx hb dX12_mostAgain_22 (by decide) ?_
  refine lv_iload_n hx hb dX12_mostAgain_2 rfl (lv_at hl 0 rfl) ?_
  refine lv_iconst (v := 5) hx hb dX12_mostAgain_3 (by decide) ?_
  refine lv_icmp_ge (tgt := 25) hx hb dX12_mostAgain_4 (by decide) (fun c9 => absurd c9 (by decide)) (fun _ => ?_)
  refine lv_aload_n hx hb dX12_mostAgain_7 rfl (lv_at hl 1 rfl) ?_
  refine t_gk hx hb hts hown hK hB mh0 th0 fq_12_26 hbm mw_6_2 dX12_mostAgain_8 ?_
  refine lv_iload_n hx hb dX12_mostAgain_11 rfl (lv_at hl 0 rfl) ?_
  refine lv_aload_n hx hb dX12_mostAgain_12 rfl (lv_at hl 1 rfl) ?_
  refine t_gk hx hb hts hown hK hB mh0 th0 fq_12_32 hba mw_6_8 dX12_mostAgain_13 ?_
  refine lv_iload_n hx hb dX12_mostAgain_16 rfl (lv_at hl 0 rfl) ?_
  have k_9 : σ_7 ba 1 = (σ ba 1) := by rw [eσ_7, up2_nej _ _ (by decide)]
  refine t_ai hx hb hK hB mba tba ai_77 (fun _ => rfl) (i_in (by decide) (by decide)) dX12_mostAgain_17 (fun x_10 ex_10 lx_10 ux_10 => ?_)
  have qx_10 : x_10 = (σ ba 1) := ex_10.trans k_9
  have qx_10 := qx_10.symm
  subst qx_10
  refine t_si hx hb hK hLA hB hS mbm tbm ai_73 (i_in (by decide) (by decide)) (i_lo _) (i_hi _) (Or.inr (by decide)) dX12_mostAgain_18 (fun H locs σ_11 eσ_11 hB hS => ?_)
  have k_12 : σ_11 bm 1 = (σ ba 1) := by rw [eσ_11]; exact up2_same _ _ _ _
  refine lv_iinc (v := 2) (lv' := [(1, .int 2), (0, .ref h0)]) hx hb dX12_mostAgain_19 hl (k := 0) rfl (by decide) (by decide) rfl (fun ls hl => ?_)
  refine lv_goto (tgt := 2) hx hb dX12_mostAgain_22 (by decide) ?_
  refine lv_iload_n hx hb dX12_mostAgain_2 rfl (lv_at hl 0 rfl) ?_
  refine lv_iconst (v := 5) hx hb dX12_mostAgain_3 (by decide) ?_
  refine lv_icmp_ge (tgt := 25) hx hb dX12_mostAgain_4 (by decide) (fun c9 => absurd c9 (by decide)) (fun _ => ?_)
  refine lv_aload_n hx hb dX12_mostAgain_7 rfl (lv_at hl 1 rfl) ?_
  refine t_gk hx hb hts hown hK hB mh0 th0 fq_12_26 hbm mw_6_2 dX12_mostAgain_8 ?_
  refine lv_iload_n hx hb dX12_mostAgain_11 rfl (lv_at hl 0 rfl) ?_
  refine lv_aload_n hx hb dX12_mostAgain_12 rfl (lv_at hl 1 rfl) ?_
  refine t_gk hx hb hts hown hK hB mh0 th0 fq_12_32 hba mw_6_8 dX12_mostAgain_13 ?_
  refine lv_iload_n hx hb dX12_mostAgain_16 rfl (lv_at hl 0 rfl) ?_
  have k_13 : σ_7 ba 2 = (σ ba 2) := by rw [eσ_7, up2_nej _ _ (by decide)]
  have k_14 : σ_11 ba 2 = (σ ba 2) := by rw [eσ_11, up2_nej _ _ (by decide)]; exact k_13
  refine t_ai hx hb hK hB mba tba ai_77 (fun _ => rfl) (i_in (by decide) (by decide)) dX12_mostAgain_17 (fun x_15 ex_15 lx_15 ux_15 => ?_)
  have qx_15 : x_15 = (σ ba 2) := ex_15.trans k_14
  have qx_15 := qx_15.symm
  subst qx_15
  refine t_si hx hb hK hLA hB hS mbm tbm ai_73 (i_in (by decide) (by decide)) (i_lo _) (i_hi _) (Or.inr (by decide)) dX12_mostAgain_18 (fun H locs σ_16 eσ_16 hB hS => ?_)
  have k_17 : σ_16 bm 2 = (σ ba 2) := by rw [eσ_16]; exact up2_same _ _ _ _
  refine lv_iinc (v := 3) (lv' := [(1, .int 3), (0, .ref h0)]) hx hb dX12_mostAgain_19 hl (k := 0) rfl (by decide) (by decide) rfl (fun ls hl => ?_)
  refine lv_goto (tgt := 2) hx hb dX12_mostAgain_22 (by decide) ?_
  refine lv_iload_n hx hb dX12_mostAgain_2 rfl (lv_at hl 0 rfl) ?_
  refine lv_iconst (v := 5) hx hb dX12_mostAgain_3 (by decide) ?_
  refine lv_icmp_ge (tgt := 25) hx hb dX12_mostAgain_4 (by decide) (fun c9 => absurd c9 (by decide)) (fun _ => ?_)
  refine lv_aload_n hx hb dX12_mostAgain_7 rfl (lv_at hl 1 rfl) ?_
  refine t_gk hx hb hts hown hK hB mh0 th0 fq_12_26 hbm mw_6_2 dX12_mostAgain_8 ?_
  refine lv_iload_n hx hb dX12_mostAgain_11 rfl (lv_at hl 0 rfl) ?_
  refine lv_aload_n hx hb dX12_mostAgain_12 rfl (lv_at hl 1 rfl) ?_
  refine t_gk hx hb hts hown hK hB mh0 th0 fq_12_32 hba mw_6_8 dX12_mostAgain_13 ?_
  refine lv_iload_n hx hb dX12_mostAgain_16 rfl (lv_at hl 0 rfl) ?_
  have k_18 : σ_7 ba 3 = (σ ba 3) := by rw [eσ_7, up2_nej _ _ (by decide)]
  have k_19 : σ_11 ba 3 = (σ ba 3) := by rw [eσ_11, up2_nej _ _ (by decide)]; exact k_18
  have k_20 : σ_16 ba 3 = (σ ba 3) := by rw [eσ_16, up2_nej _ _ (by decide)]; exact k_19
  refine t_ai hx hb hK hB mba tba ai_77 (fun _ => rfl) (i_in (by decide) (by decide)) dX12_mostAgain_17 (fun x_21 ex_21 lx_21 ux_21 => ?_)
  have qx_21 : x_21 = (σ ba 3) := ex_21.trans k_20
  have qx_21 := qx_21.symm
  subst qx_21
  refine t_si hx hb hK hLA hB hS mbm tbm ai_73 (i_in (by decide) (by decide)) (i_lo _) (i_hi _) (Or.inr (by decide)) dX12_mostAgain_18 (fun H locs σ_22 eσ_22 hB hS => ?_)
  have k_23 : σ_22 bm 3 = (σ ba 3) := by rw [eσ_22]; exact up2_same _ _ _ _
  refine lv_iinc (v := 4) (lv' := [(1, .int 4), (0, .ref h0)]) hx hb dX12_mostAgain_19 hl (k := 0) rfl (by decide) (by decide) rfl (fun ls hl => ?_)
  refine lv_goto (tgt := 2) hx hb dX12_mostAgain_22 (by decide) ?_
  refine lv_iload_n hx hb dX12_mostAgain_2 rfl (lv_at hl 0 rfl) ?_
  refine lv_iconst (v := 5) hx hb dX12_mostAgain_3 (by decide) ?_
  refine lv_icmp_ge (tgt := 25) hx hb dX12_mostAgain_4 (by decide) (fun c9 => absurd c9 (by decide)) (fun _ => ?_)
  refine lv_aload_n hx hb dX12_mostAgain_7 rfl (lv_at hl 1 rfl) ?_
  refine t_gk hx hb hts hown hK hB mh0 th0 fq_12_26 hbm mw_6_2 dX12_mostAgain_8 ?_
  refine lv_iload_n hx hb dX12_mostAgain_11 rfl (lv_at hl 0 rfl) ?_
  refine lv_aload_n hx hb dX12_mostAgain_12 rfl (lv_at hl 1 rfl) ?_
  refine t_gk hx hb hts hown hK hB mh0 th0 fq_12_32 hba mw_6_8 dX12_mostAgain_13 ?_
  refine lv_iload_n hx hb dX12_mostAgain_16 rfl (lv_at hl 0 rfl) ?_
  have k_24 : σ_7 ba 4 = (σ ba 4) := by rw [eσ_7, up2_nej _ _ (by decide)]
  have k_25 : σ_11 ba 4 = (σ ba 4) := by rw [eσ_11, up2_nej _ _ (by decide)]; exact k_24
  have k_26 : σ_16 ba 4 = (σ ba 4) := by rw [eσ_16, up2_nej _ _ (by decide)]; exact k_25
  have k_27 : σ_22 ba 4 = (σ ba 4) := by rw [eσ_22, up2_nej _ _ (by decide)]; exact k_26
  refine t_ai hx hb hK hB mba tba ai_77 (fun _ => rfl) (i_in (by decide) (by decide)) dX12_mostAgain_17 (fun x_28 ex_28 lx_28 ux_28 => ?_)
  have qx_28 : x_28 = (σ ba 4) := ex_28.trans k_27
  have qx_28 := qx_28.symm
  subst qx_28
  refine t_si hx hb hK hLA hB hS mbm tbm ai_73 (i_in (by decide) (by decide)) (i_lo _) (i_hi _) (Or.inr (by decide)) dX12_mostAgain_18 (fun H locs σ_29 eσ_29 hB hS => ?_)
  have k_30 : σ_29 bm 4 = (σ ba 4) := by rw [eσ_29]; exact up2_same _ _ _ _
  refine lv_iinc (v := 5) (lv' := [(1, .int 5), (0, .ref h0)]) hx hb dX12_mostAgain_19 hl (k := 0) rfl (by decide) (by decide) rfl (fun ls hl => ?_)
  refine lv_goto (tgt := 2) hx hb dX12_mostAgain_22 (by decide) ?_
  refine lv_iload_n hx hb dX12_mostAgain_2 rfl (lv_at hl 0 rfl) ?_
  refine lv_iconst (v := 5) hx hb dX12_mostAgain_3 (by decide) ?_
  refine lv_icmp_ge (tgt := 25) hx hb dX12_mostAgain_4 (by decide) (fun _ => ?_) (fun c9 => absurd (by decide) c9)
  have k_31 : σ_11 bm 0 = (σ ba 0) := by rw [eσ_11, up2_nej _ _ (by decide)]; exact k_8
  have k_32 : σ_16 bm 0 = (σ ba 0) := by rw [eσ_16, up2_nej _ _ (by decide)]; exact k_31
  have k_33 : σ_22 bm 0 = (σ ba 0) := by rw [eσ_22, up2_nej _ _ (by decide)]; exact k_32
  have k_34 : σ_29 bm 0 = (σ ba 0) := by rw [eσ_29, up2_nej _ _ (by decide)]; exact k_33
  have k_35 : σ_16 bm 1 = (σ ba 1) := by rw [eσ_16, up2_nej _ _ (by decide)]; exact k_12
  have k_36 : σ_22 bm 1 = (σ ba 1) := by rw [eσ_22, up2_nej _ _ (by decide)]; exact k_35
  have k_37 : σ_29 bm 1 = (σ ba 1) := by rw [eσ_29, up2_nej _ _ (by decide)]; exact k_36
  have k_38 : σ_22 bm 2 = (σ ba 2) := by rw [eσ_22, up2_nej _ _ (by decide)]; exact k_17
  have k_39 : σ_29 bm 2 = (σ ba 2) := by rw [eσ_29, up2_nej _ _ (by decide)]; exact k_38
  have k_40 : σ_29 bm 3 = (σ ba 3) := by rw [eσ_29, up2_nej _ _ (by decide)]; exact k_23
  exact W.vret hx hb hr (fun t ht hW => ⟨⟨(σ_29, ρ), rfl, ⟨hB.2.1, hB.2.2, ⟨(show σ_29 bm 0 = σ ba 0 from k_34), (show σ_29 bm 1 = σ ba 1 from k_37), (show σ_29 bm 2 = σ ba 2 from k_39), (show σ_29 bm 3 = σ ba 3 from k_40), (show σ_29 bm 4 = σ ba 4 from k_30)⟩⟩, (show TP D cA L T r σ_29 ρ t.heap from by rw [ht]; exact hB.1)⟩, hS.F ht⟩) hS.2.2 dX12_mostAgain_25
theorem mw_8_32 : (.instanceMethod yX12_mostAgain : Cond) ∈ wsA := wsA_t (List.mem_append_right _ (List.mem_append_right _ (List.mem_append_right _ (List.mem_append_right _ (List.mem_append_right _ (List.mem_append_right _ (List.mem_append_right _ (List.mem_of_getElem? (l := tables_1_8) (i := 32) rfl)))))))) rfl
theorem mp_7_14 : (.selects RX12 yX12_mostAgain yX12_mostAgain : Cond) ∈ wsA := wsA_p (q := (yX12_mostAgain, 44)) (List.mem_append_right _ (List.mem_append_right _ (List.mem_append_right _ (List.mem_append_right _ (List.mem_append_right _ (List.mem_append_right _ (List.mem_append_left _ (List.mem_of_getElem? (l := lw_privs_7) (i := 14) rfl))))))))
theorem mw_8_33 : (.code yX12_mostAgain cX12_mostAgain 2 none : Cond) ∈ wsA := wsA_t (List.mem_append_right _ (List.mem_append_right _ (List.mem_append_right _ (List.mem_append_right _ (List.mem_append_right _ (List.mem_append_right _ (List.mem_append_right _ (List.mem_of_getElem? (l := tables_1_8) (i := 33) rfl)))))))) rfl
theorem mw_8_30 : (.methodLink RX12 407 yX12_mostAgain : Cond) ∈ wsA := wsA_t (List.mem_append_right _ (List.mem_append_right _ (List.mem_append_right _ (List.mem_append_right _ (List.mem_append_right _ (List.mem_append_right _ (List.mem_append_right _ (List.mem_of_getElem? (l := tables_1_8) (i := 30) rfl)))))))) rfl
theorem mw_8_36 : (.instanceMethod yX12_hasNextRow : Cond) ∈ wsA := wsA_t (List.mem_append_right _ (List.mem_append_right _ (List.mem_append_right _ (List.mem_append_right _ (List.mem_append_right _ (List.mem_append_right _ (List.mem_append_right _ (List.mem_of_getElem? (l := tables_1_8) (i := 36) rfl)))))))) rfl
theorem mp_7_15 : (.selects RX12 yX12_hasNextRow yX12_hasNextRow : Cond) ∈ wsA := wsA_p (q := (yX12_hasNextRow, 44)) (List.mem_append_right _ (List.mem_append_right _ (List.mem_append_right _ (List.mem_append_right _ (List.mem_append_right _ (List.mem_append_right _ (List.mem_append_left _ (List.mem_of_getElem? (l := lw_privs_7) (i := 15) rfl))))))))
theorem mw_8_37 : (.code yX12_hasNextRow cX12_hasNextRow 3 (some .boolean) : Cond) ∈ wsA := wsA_t (List.mem_append_right _ (List.mem_append_right _ (List.mem_append_right _ (List.mem_append_right _ (List.mem_append_right _ (List.mem_append_right _ (List.mem_append_right _ (List.mem_of_getElem? (l := tables_1_8) (i := 37) rfl)))))))) rfl
theorem mw_8_34 : (.methodLink RX12 410 yX12_hasNextRow : Cond) ∈ wsA := wsA_t (List.mem_append_right _ (List.mem_append_right _ (List.mem_append_right _ (List.mem_append_right _ (List.mem_append_right _ (List.mem_append_right _ (List.mem_append_right _ (List.mem_of_getElem? (l := tables_1_8) (i := 34) rfl)))))))) rfl
theorem mw_8_24 : (.instanceMethod yX12_canHaveRow : Cond) ∈ wsA := wsA_t (List.mem_append_right _ (List.mem_append_right _ (List.mem_append_right _ (List.mem_append_right _ (List.mem_append_right _ (List.mem_append_right _ (List.mem_append_right _ (List.mem_of_getElem? (l := tables_1_8) (i := 24) rfl)))))))) rfl
theorem mp_7_12 : (.selects RX12 yX12_canHaveRow yX12_canHaveRow : Cond) ∈ wsA := wsA_p (q := (yX12_canHaveRow, 44)) (List.mem_append_right _ (List.mem_append_right _ (List.mem_append_right _ (List.mem_append_right _ (List.mem_append_right _ (List.mem_append_right _ (List.mem_append_left _ (List.mem_of_getElem? (l := lw_privs_7) (i := 12) rfl))))))))
theorem mw_8_25 : (.code yX12_canHaveRow cX12_canHaveRow 3 (some .boolean) : Cond) ∈ wsA := wsA_t (List.mem_append_right _ (List.mem_append_right _ (List.mem_append_right _ (List.mem_append_right _ (List.mem_append_right _ (List.mem_append_right _ (List.mem_append_right _ (List.mem_of_getElem? (l := tables_1_8) (i := 25) rfl)))))))) rfl
theorem mw_8_22 : (.methodLink RX12 401 yX12_canHaveRow : Cond) ∈ wsA := wsA_t (List.mem_append_right _ (List.mem_append_right _ (List.mem_append_right _ (List.mem_append_right _ (List.mem_append_right _ (List.mem_append_right _ (List.mem_append_right _ (List.mem_of_getElem? (l := tables_1_8) (i := 22) rfl)))))))) rfl
theorem mw_8_28 : (.instanceMethod yX12_keepsRow : Cond) ∈ wsA := wsA_t (List.mem_append_right _ (List.mem_append_right _ (List.mem_append_right _ (List.mem_append_right _ (List.mem_append_right _ (List.mem_append_right _ (List.mem_append_right _ (List.mem_of_getElem? (l := tables_1_8) (i := 28) rfl)))))))) rfl
theorem mp_7_13 : (.selects RX12 yX12_keepsRow yX12_keepsRow : Cond) ∈ wsA := wsA_p (q := (yX12_keepsRow, 44)) (List.mem_append_right _ (List.mem_append_right _ (List.mem_append_right _ (List.mem_append_right _ (List.mem_append_right _ (List.mem_append_right _ (List.mem_append_left _ (List.mem_of_getElem? (l := lw_privs_7) (i := 13) rfl))))))))
theorem mw_8_29 : (.code yX12_keepsRow cX12_keepsRow 4 none : Cond) ∈ wsA := wsA_t (List.mem_append_right _ (List.mem_append_right _ (List.mem_append_right _ (List.mem_append_right _ (List.mem_append_right _ (List.mem_append_right _ (List.mem_append_right _ (List.mem_of_getElem? (l := tables_1_8) (i := 29) rfl)))))))) rfl
theorem mw_8_26 : (.methodLink RX12 404 yX12_keepsRow : Cond) ∈ wsA := wsA_t (List.mem_append_right _ (List.mem_append_right _ (List.mem_append_right _ (List.mem_append_right _ (List.mem_append_right _ (List.mem_append_right _ (List.mem_append_right _ (List.mem_of_getElem? (l := tables_1_8) (i := 26) rfl)))))))) rfl
theorem dX12_findsBag_0 : decode cX12_findsBag 0 = .ok (.iconst 1, 1) := by decide +kernel
theorem dX12_findsBag_1 : decode cX12_findsBag 1 = .ok (.istore_n 2, 1) := by decide +kernel
theorem dX12_findsBag_2 : decode cX12_findsBag 2 = .ok (.aload_n 0, 1) := by decide +kernel
theorem dX12_findsBag_3 : decode cX12_findsBag 3 = .ok (.iconst (-1), 1) := by decide +kernel
theorem dX12_findsBag_4 : decode cX12_findsBag 4 = .ok (.putfield 392, 3) := by decide +kernel
theorem dX12_findsBag_7 : decode cX12_findsBag 7 = .ok (.iconst 0, 1) := by decide +kernel
theorem dX12_findsBag_8 : decode cX12_findsBag 8 = .ok (.istore_n 3, 1) := by decide +kernel
theorem dX12_findsBag_9 : decode cX12_findsBag 9 = .ok (.iload_n 3, 1) := by decide +kernel
theorem dX12_findsBag_10 : decode cX12_findsBag 10 = .ok (.iconst 5, 1) := by decide +kernel
theorem dX12_findsBag_11 : decode cX12_findsBag 11 = .ok (.if_icmp .ge 23, 3) := by decide +kernel
theorem dX12_findsBag_14 : decode cX12_findsBag 14 = .ok (.aload_n 0, 1) := by decide +kernel
theorem dX12_findsBag_15 : decode cX12_findsBag 15 = .ok (.getfield 58, 3) := by decide +kernel
theorem dX12_findsBag_18 : decode cX12_findsBag 18 = .ok (.iload_n 3, 1) := by decide +kernel
theorem dX12_findsBag_19 : decode cX12_findsBag 19 = .ok (.iconst 0, 1) := by decide +kernel
theorem dX12_findsBag_20 : decode cX12_findsBag 20 = .ok (.iastore, 1) := by decide +kernel
theorem dX12_findsBag_21 : decode cX12_findsBag 21 = .ok (.aload_n 0, 1) := by decide +kernel
theorem dX12_findsBag_22 : decode cX12_findsBag 22 = .ok (.getfield 64, 3) := by decide +kernel
theorem dX12_findsBag_25 : decode cX12_findsBag 25 = .ok (.iload_n 3, 1) := by decide +kernel
theorem dX12_findsBag_26 : decode cX12_findsBag 26 = .ok (.iconst 3, 1) := by decide +kernel
theorem dX12_findsBag_27 : decode cX12_findsBag 27 = .ok (.iastore, 1) := by decide +kernel
theorem dX12_findsBag_28 : decode cX12_findsBag 28 = .ok (.iinc 3 1, 3) := by decide +kernel
theorem dX12_findsBag_31 : decode cX12_findsBag 31 = .ok (.goto (-22), 3) := by decide +kernel
theorem dX12_findsBag_34 : decode cX12_findsBag 34 = .ok (.iload_n 2, 1) := by decide +kernel
theorem dX12_findsBag_35 : decode cX12_findsBag 35 = .ok (.ifCond .eq 118, 3) := by decide +kernel
theorem dX12_findsBag_38 : decode cX12_findsBag 38 = .ok (.aload_n 0, 1) := by decide +kernel
theorem dX12_findsBag_39 : decode cX12_findsBag 39 = .ok (.iconst 2, 1) := by decide +kernel
theorem dX12_findsBag_40 : decode cX12_findsBag 40 = .ok (.invokevirtual 398, 3) := by decide +kernel
theorem dX12_findsBag_43 : decode cX12_findsBag 43 = .ok (.istore_n 3, 1) := by decide +kernel
theorem dX12_findsBag_44 : decode cX12_findsBag 44 = .ok (.iload_n 3, 1) := by decide +kernel
theorem dX12_findsBag_45 : decode cX12_findsBag 45 = .ok (.aload_n 0, 1) := by decide +kernel
theorem dX12_findsBag_46 : decode cX12_findsBag 46 = .ok (.iload_n 1, 1) := by decide +kernel
theorem dX12_findsBag_47 : decode cX12_findsBag 47 = .ok (.iconst 1, 1) := by decide +kernel
theorem dX12_findsBag_48 : decode cX12_findsBag 48 = .ok (.invokevirtual 324, 3) := by decide +kernel
theorem dX12_findsBag_51 : decode cX12_findsBag 51 = .ok (.if_icmp .gt 90, 3) := by decide +kernel
theorem dX12_findsBag_141 : decode cX12_findsBag 141 = .ok (.aload_n 0, 1) := by decide +kernel
theorem dX12_findsBag_142 : decode cX12_findsBag 142 = .ok (.invokevirtual 407, 3) := by decide +kernel
theorem dX12_findsBag_145 : decode cX12_findsBag 145 = .ok (.aload_n 0, 1) := by decide +kernel
theorem dX12_findsBag_146 : decode cX12_findsBag 146 = .ok (.invokevirtual 410, 3) := by decide +kernel
theorem dX12_findsBag_149 : decode cX12_findsBag 149 = .ok (.istore_n 2, 1) := by decide +kernel
theorem dX12_findsBag_150 : decode cX12_findsBag 150 = .ok (.goto (-116), 3) := by decide +kernel
theorem dX12_findsBag_54 : decode cX12_findsBag 54 = .ok (.aload_n 0, 1) := by decide +kernel
theorem dX12_findsBag_55 : decode cX12_findsBag 55 = .ok (.iload_n 1, 1) := by decide +kernel
theorem dX12_findsBag_56 : decode cX12_findsBag 56 = .ok (.invokevirtual 401, 3) := by decide +kernel
theorem dX12_findsBag_59 : decode cX12_findsBag 59 = .ok (.ifCond .eq 82, 3) := by decide +kernel
theorem dX12_findsBag_62 : decode cX12_findsBag 62 = .ok (.iconst 0, 1) := by decide +kernel
theorem dX12_findsBag_63 : decode cX12_findsBag 63 = .ok (.istore 4, 2) := by decide +kernel
theorem dX12_findsBag_65 : decode cX12_findsBag 65 = .ok (.iload 4, 2) := by decide +kernel
theorem dX12_findsBag_67 : decode cX12_findsBag 67 = .ok (.iconst 5, 1) := by decide +kernel
theorem dX12_findsBag_68 : decode cX12_findsBag 68 = .ok (.if_icmp .ge 31, 3) := by decide +kernel
theorem dX12_findsBag_71 : decode cX12_findsBag 71 = .ok (.aload_n 0, 1) := by decide +kernel
theorem dX12_findsBag_72 : decode cX12_findsBag 72 = .ok (.getfield 55, 3) := by decide +kernel
theorem dX12_findsBag_75 : decode cX12_findsBag 75 = .ok (.iload 4, 2) := by decide +kernel
theorem dX12_findsBag_77 : decode cX12_findsBag 77 = .ok (.aload_n 0, 1) := by decide +kernel
theorem dX12_findsBag_78 : decode cX12_findsBag 78 = .ok (.iload_n 1, 1) := by decide +kernel
theorem dX12_findsBag_79 : decode cX12_findsBag 79 = .ok (.iload 4, 2) := by decide +kernel
theorem dX12_findsBag_81 : decode cX12_findsBag 81 = .ok (.invokevirtual 304, 3) := by decide +kernel
theorem dX12_findsBag_84 : decode cX12_findsBag 84 = .ok (.aload_n 0, 1) := by decide +kernel
theorem dX12_findsBag_85 : decode cX12_findsBag 85 = .ok (.getfield 58, 3) := by decide +kernel
theorem dX12_findsBag_88 : decode cX12_findsBag 88 = .ok (.iload 4, 2) := by decide +kernel
theorem dX12_findsBag_90 : decode cX12_findsBag 90 = .ok (.iaload, 1) := by decide +kernel
theorem dX12_findsBag_91 : decode cX12_findsBag 91 = .ok (.iadd, 1) := by decide +kernel
theorem dX12_findsBag_92 : decode cX12_findsBag 92 = .ok (.iastore, 1) := by decide +kernel
theorem dX12_findsBag_93 : decode cX12_findsBag 93 = .ok (.iinc 4 1, 3) := by decide +kernel
theorem dX12_findsBag_96 : decode cX12_findsBag 96 = .ok (.goto (-31), 3) := by decide +kernel
theorem dX12_findsBag_99 : decode cX12_findsBag 99 = .ok (.aload_n 0, 1) := by decide +kernel
theorem dX12_findsBag_100 : decode cX12_findsBag 100 = .ok (.iconst 0, 1) := by decide +kernel
theorem dX12_findsBag_101 : decode cX12_findsBag 101 = .ok (.iconst (-1), 1) := by decide +kernel
theorem dX12_findsBag_102 : decode cX12_findsBag 102 = .ok (.iconst 1, 1) := by decide +kernel
theorem dX12_findsBag_103 : decode cX12_findsBag 103 = .ok (.invokevirtual 385, 3) := by decide +kernel
theorem dX12_findsBag_106 : decode cX12_findsBag 106 = .ok (.istore 4, 2) := by decide +kernel
theorem dX12_findsBag_108 : decode cX12_findsBag 108 = .ok (.iload 4, 2) := by decide +kernel
theorem dX12_findsBag_110 : decode cX12_findsBag 110 = .ok (.aload_n 0, 1) := by decide +kernel
theorem dX12_findsBag_111 : decode cX12_findsBag 111 = .ok (.getfield 392, 3) := by decide +kernel
theorem dX12_findsBag_114 : decode cX12_findsBag 114 = .ok (.if_icmp .gt 20, 3) := by decide +kernel
theorem dX12_findsBag_134 : decode cX12_findsBag 134 = .ok (.aload_n 0, 1) := by decide +kernel
theorem dX12_findsBag_135 : decode cX12_findsBag 135 = .ok (.iload 4, 2) := by decide +kernel
theorem dX12_findsBag_137 : decode cX12_findsBag 137 = .ok (.iload_n 3, 1) := by decide +kernel
theorem dX12_findsBag_138 : decode cX12_findsBag 138 = .ok (.invokevirtual 404, 3) := by decide +kernel
theorem dX12_findsBag_117 : decode cX12_findsBag 117 = .ok (.iload 4, 2) := by decide +kernel
theorem dX12_findsBag_119 : decode cX12_findsBag 119 = .ok (.aload_n 0, 1) := by decide +kernel
theorem dX12_findsBag_120 : decode cX12_findsBag 120 = .ok (.getfield 392, 3) := by decide +kernel
theorem dX12_findsBag_123 : decode cX12_findsBag 123 = .ok (.if_icmp .ne 18, 3) := by decide +kernel
theorem dX12_findsBag_126 : decode cX12_findsBag 126 = .ok (.iload_n 3, 1) := by decide +kernel
theorem dX12_findsBag_127 : decode cX12_findsBag 127 = .ok (.aload_n 0, 1) := by decide +kernel
theorem dX12_findsBag_128 : decode cX12_findsBag 128 = .ok (.getfield 395, 3) := by decide +kernel
theorem dX12_findsBag_131 : decode cX12_findsBag 131 = .ok (.if_icmp .ge 10, 3) := by decide +kernel
theorem dX12_findsBag_153 : decode cX12_findsBag 153 = .ok (.return_, 1) := by decide +kernel
theorem mv_X12_mostAgain : MV RX12 yX12_mostAgain cX12_mostAgain 2 none 0 := ⟨mw_8_32, mp_7_14, mw_1_13, mw_8_33, ⟨rfl, by decide, by decide, by decide +kernel⟩⟩
theorem mv_X12_hasNextRow : MV RX12 yX12_hasNextRow cX12_hasNextRow 3 (some .boolean) 0 := ⟨mw_8_36, mp_7_15, mw_1_13, mw_8_37, ⟨rfl, by decide, by decide, by decide +kernel⟩⟩
theorem mv_X12_canHaveRow : MV RX12 yX12_canHaveRow cX12_canHaveRow 3 (some .boolean) 1 := ⟨mw_8_24, mp_7_12, mw_1_13, mw_8_25, ⟨rfl, by decide, by decide, by decide +kernel⟩⟩
theorem mv_X12_keepsRow : MV RX12 yX12_keepsRow cX12_keepsRow 4 none 2 := ⟨mw_8_28, mp_7_13, mw_1_13, mw_8_29, ⟨rfl, by decide, by decide, by decide +kernel⟩⟩
set_option maxHeartbeats 4000000 in
set_option maxRecDepth 100000 in
theorem cz_X12_findsBag (l : Launch) (D : va_G) (cA : Nat → ClassId) (L : List Nat) (T : Nat → Nat) (r : Rg) (hG : GR L T r) (hL : L.Nodup) (σ : Sg) (ρ : Lg) (hW : WT L ry T σ) (sz : Nat) (h0 : Nat) (mh0 : h0 ∈ L) (th0 : T h0 = 12) (p1 : Int32) (br : Nat) (hbr : r h0 28 = some br) (mbr : br ∈ L) (tbr : T br = 75) (bm : Nat) (hbm : r h0 26 = some bm) (mbm : bm ∈ L) (tbm : T bm = 73) (ba : Nat) (hba : r h0 32 = some ba) (mba : ba ∈ L) (tba : T ba = 77) (w0 : 0 ≤ p1.toInt) (w1 : p1.toInt ≤ 3) : Met l yX12_findsBag (.code yX12_findsBag cX12_findsBag 5 none :: wsA) ({ frames := 3, cells := 0, slots := 0, locals := 67 }) (PR D cA L T r σ ρ sz [.ref h0, .int p1]) (QV D cA L T r ry [(12, 30), (12, 31), (73, 1000), (74, 1000), (75, 1000), (76, 1000), (77, 1000)] σ sz (fun σ1 => True)) 0 0 (dm L sz) := by
  refine Met.ofW (cc := cX12_findsBag) (maxL := 5) (ret := none) (by decide) rfl ?_
  intro p e s m args below meth c s₁ B hml hv
  obtain ⟨rfl, hsz, hP, hK, hN⟩ := hv
  have hx := B.exec
  have hb := B.bytes
  have hr := B.returns
  have hts : ∀ w ∈ wsA, w.before _ s = true := fun w h => atoms_spec (ws := .code yX12_findsBag cX12_findsBag 5 none :: wsA) B.pre w (List.mem_cons_of_mem _ h)
  have hown : s.vm.findClass RX12 = some m.cls := findClass_of_methodNamed B.named
  subst hsz
  have hLA : LA (dm L s.heap.size) L := ⟨hL, fun a h => Or.inl h⟩
  have hA : ∀ q : Nat, s.heap.size ≤ q → dm L s.heap.size q := fun q h => Or.inr h
  have hS : va_S (dm L s.heap.size) s.heap s.heap [] := va_S.rf
  have hB : TS D cA L T r ry [(12, 30), (12, 31), (73, 1000), (74, 1000), (75, 1000), (76, 1000), (77, 1000)] σ σ ρ s.heap := ⟨hP, hW, FR.rf⟩
  have hl := lv_entry ([.ref h0, .int p1]) (n := 5) (Nat.le_of_ble_eq_true rfl)
  rw [lg_entry_eq]
  generalize (lg_sl ([.ref h0, .int p1]) ++ List.replicate (5 - (lg_sl ([.ref h0, .int p1])).length) Slot.unset).toArray = ls at hl ⊢
  have hl : lv_has ls 5 [(0, .ref h0), (1, .int p1)] := hl
  have z3 : (3 : Int32).toInt = 3 := by decide
  refine lv_iconst (v := 1) hx hb dX12_findsBag_0 (by decide) ?_
  refine lv_istore_n (lv' := [(2, .int 1), (0, .ref h0), (1, .int p1)]) hx hb dX12_findsBag_1 rfl hl (by decide) rfl (fun ls hl => ?_)
  refine lv_aload_n hx hb dX12_findsBag_2 rfl (lv_at hl 1 rfl) ?_
  refine lv_iconst (v := (-1)) hx hb dX12_findsBag_3 (by decide) ?_
  refine t_pi hx hb hts hown hK hLA hB hS mh0 th0 fi_12_30 rfl rfl rfl (i_lo _) (i_hi _) (Or.inl (by decide)) mw_6_6 dX12_findsBag_4 (fun H locs σ_1 eσ_1 hB hS => ?_)
  have k_2 : σ_1 h0 30 = (-1) := by rw [eσ_1]; exact up2_same _ _ _ _
  refine lv_iconst (v := 0) hx hb dX12_findsBag_7 (by decide) ?_
  refine lv_istore_n (lv' := [(3, .int 0), (2, .int 1), (0, .ref h0), (1, .int p1)]) hx hb dX12_findsBag_8 rfl hl (by decide) rfl (fun ls hl => ?_)
  refine lv_iload_n hx hb dX12_findsBag_9 rfl (lv_at hl 0 rfl) ?_
  refine lv_iconst (v := 5) hx hb dX12_findsBag_10 (by decide) ?_
  refine lv_icmp_ge (tgt := 34) hx hb dX12_findsBag_11 (by decide) (fun c9 => absurd c9 (by decide)) (fun _ => ?_)
  refine lv_aload_n hx hb dX12_findsBag_14 rfl (lv_at hl 2 rfl) ?_
  refine t_gk hx hb hts hown hK hB mh0 th0 fq_12_28 hbr mw_6_4 dX12_findsBag_15 ?_
  refine lv_iload_n hx hb dX12_findsBag_18 rfl (lv_at hl 0 rfl) ?_
  refine lv_iconst (v := 0) hx hb dX12_findsBag_19 (by decide) ?_
  refine t_si hx hb hK hLA hB hS mbr tbr ai_75 (i_in (by decide) (by decide)) (show 0 ≤ (0 : Int32).toInt by decide) (show (0 : Int32).toInt ≤ 9 by decide) (Or.inr (by decide)) dX12_findsBag_20 (fun H locs σ_3 eσ_3 hB hS => ?_)
  have k_4 : σ_3 br 0 = 0 := by rw [eσ_3]; exact up2_same _ _ _ _
  refine lv_aload_n hx hb dX12_findsBag_21 rfl (lv_at hl 2 rfl) ?_
  refine t_gk hx hb hts hown hK hB mh0 th0 fq_12_32 hba mw_6_8 dX12_findsBag_22 ?_
  refine lv_iload_n hx hb dX12_findsBag_25 rfl (lv_at hl 0 rfl) ?_
  refine lv_iconst (v := 3) hx hb dX12_findsBag_26 (by decide) ?_
  refine t_si hx hb hK hLA hB hS mba tba ai_77 (i_in (by decide) (by decide)) (show 0 ≤ (3 : Int32).toInt by decide) (show (3 : Int32).toInt ≤ 9 by decide) (Or.inr (by decide)) dX12_findsBag_27 (fun H locs σ_5 eσ_5 hB hS => ?_)
  have k_6 : σ_5 ba 0 = 3 := by rw [eσ_5]; exact up2_same _ _ _ _
  refine lv_iinc (v := 1) (lv' := [(3, .int 1), (2, .int 1), (0, .ref h0), (1, .int p1)]) hx hb dX12_findsBag_28 hl (k := 0) rfl (by decide) (by decide) rfl (fun ls hl => ?_)
  refine lv_goto (tgt := 9) hx hb dX12_findsBag_31 (by decide) ?_
  refine lv_iload_n hx hb dX12_findsBag_9 rfl (lv_at hl 0 rfl) ?_
  refine lv_iconst (v := 5) hx hb dX12_findsBag_10 (by decide) ?_
  refine lv_icmp_ge (tgt := 34) hx hb dX12_findsBag_11 (by decide) (fun c9 => absurd c9 (by decide)) (fun _ => ?_)
  refine lv_aload_n hx hb dX12_findsBag_14 rfl (lv_at hl 2 rfl) ?_
  refine t_gk hx hb hts hown hK hB mh0 th0 fq_12_28 hbr mw_6_4 dX12_findsBag_15 ?_
  refine lv_iload_n hx hb dX12_findsBag_18 rfl (lv_at hl 0 rfl) ?_
  refine lv_iconst (v := 0) hx hb dX12_findsBag_19 (by decide) ?_
  refine t_si hx hb hK hLA hB hS mbr tbr ai_75 (i_in (by decide) (by decide)) (show 0 ≤ (0 : Int32).toInt by decide) (show (0 : Int32).toInt ≤ 9 by decide) (Or.inr (by decide)) dX12_findsBag_20 (fun H locs σ_7 eσ_7 hB hS => ?_)
  have k_8 : σ_7 br 1 = 0 := by rw [eσ_7]; exact up2_same _ _ _ _
  refine lv_aload_n hx hb dX12_findsBag_21 rfl (lv_at hl 2 rfl) ?_
  refine t_gk hx hb hts hown hK hB mh0 th0 fq_12_32 hba mw_6_8 dX12_findsBag_22 ?_
  refine lv_iload_n hx hb dX12_findsBag_25 rfl (lv_at hl 0 rfl) ?_
  refine lv_iconst (v := 3) hx hb dX12_findsBag_26 (by decide) ?_
  refine t_si hx hb hK hLA hB hS mba tba ai_77 (i_in (by decide) (by decide)) (show 0 ≤ (3 : Int32).toInt by decide) (show (3 : Int32).toInt ≤ 9 by decide) (Or.inr (by decide)) dX12_findsBag_27 (fun H locs σ_9 eσ_9 hB hS => ?_)
  have k_10 : σ_9 ba 1 = 3 := by rw [eσ_9]; exact up2_same _ _ _ _
  refine lv_iinc (v := 2) (lv' := [(3, .int 2), (2, .int 1), (0, .ref h0), (1, .int p1)]) hx hb dX12_findsBag_28 hl (k := 0) rfl (by decide) (by decide) rfl (fun ls hl => ?_)
  refine lv_goto (tgt := 9) hx hb dX12_findsBag_31 (by decide) ?_
  refine lv_iload_n hx hb dX12_findsBag_9 rfl (lv_at hl 0 rfl) ?_
  refine lv_iconst (v := 5) hx hb dX12_findsBag_10 (by decide) ?_
  refine lv_icmp_ge (tgt := 34) hx hb dX12_findsBag_11 (by decide) (fun c9 => absurd c9 (by decide)) (fun _ => ?_)
  refine lv_aload_n hx hb dX12_findsBag_14 rfl (lv_at hl 2 rfl) ?_
  refine t_gk hx hb hts hown hK hB mh0 th0 fq_12_28 hbr mw_6_4 dX12_findsBag_15 ?_
  refine lv_iload_n hx hb dX12_findsBag_18 rfl (lv_at hl 0 rfl) ?_
  refine lv_iconst (v := 0) hx hb dX12_findsBag_19 (by decide) ?_
  refine t_si hx hb hK hLA hB hS mbr tbr ai_75 (i_in (by decide) (by decide)) (show 0 ≤ (0 : Int32).toInt by decide) (show (0 : Int32).toInt ≤ 9 by decide) (Or.inr (by decide)) dX12_findsBag_20 (fun H locs σ_11 eσ_11 hB hS => ?_)
  have k_12 : σ_11 br 2 = 0 := by rw [eσ_11]; exact up2_same _ _ _ _
  refine lv_aload_n hx hb dX12_findsBag_21 rfl (lv_at hl 2 rfl) ?_
  refine t_gk hx hb hts hown hK hB mh0 th0 fq_12_32 hba mw_6_8 dX12_findsBag_22 ?_
  refine lv_iload_n hx hb dX12_findsBag_25 rfl (lv_at hl 0 rfl) ?_
  refine lv_iconst (v := 3) hx hb dX12_findsBag_26 (by decide) ?_
  refine t_si hx hb hK hLA hB hS mba tba ai_77 (i_in (by decide) (by decide)) (show 0 ≤ (3 : Int32).toInt by decide) (show (3 : Int32).toInt ≤ 9 by decide) (Or.inr (by decide)) dX12_findsBag_27 (fun H locs σ_13 eσ_13 hB hS => ?_)
  have k_14 : σ_13 ba 2 = 3 := by rw [eσ_13]; exact up2_same _ _ _ _
  refine lv_iinc (v := 3) (lv' := [(3, .int 3), (2, .int 1), (0, .ref h0), (1, .int p1)]) hx hb dX12_findsBag_28 hl (k := 0) rfl (by decide) (by decide) rfl (fun ls hl => ?_)
  refine lv_goto (tgt := 9) hx hb dX12_findsBag_31 (by decide) ?_
  refine lv_iload_n hx hb dX12_findsBag_9 rfl (lv_at hl 0 rfl) ?_
  refine lv_iconst (v := 5) hx hb dX12_findsBag_10 (by decide) ?_
  refine lv_icmp_ge (tgt := 34) hx hb dX12_findsBag_11 (by decide) (fun c9 => absurd c9 (by decide)) (fun _ => ?_)
  refine lv_aload_n hx hb dX12_findsBag_14 rfl (lv_at hl 2 rfl) ?_
  refine t_gk hx hb hts hown hK hB mh0 th0 fq_12_28 hbr mw_6_4 dX12_findsBag_15 ?_
  refine lv_iload_n hx hb dX12_findsBag_18 rfl (lv_at hl 0 rfl) ?_
  refine lv_iconst (v := 0) hx hb dX12_findsBag_19 (by decide) ?_
  refine t_si hx hb hK hLA hB hS mbr tbr ai_75 (i_in (by decide) (by decide)) (show 0 ≤ (0 : Int32).toInt by decide) (show (0 : Int32).toInt ≤ 9 by decide) (Or.inr (by decide)) dX12_findsBag_20 (fun H locs σ_15 eσ_15 hB hS => ?_)
  have k_16 : σ_15 br 3 = 0 := by rw [eσ_15]; exact up2_same _ _ _ _
  refine lv_aload_n hx hb dX12_findsBag_21 rfl (lv_at hl 2 rfl) ?_
  refine t_gk hx hb hts hown hK hB mh0 th0 fq_12_32 hba mw_6_8 dX12_findsBag_22 ?_
  refine lv_iload_n hx hb dX12_findsBag_25 rfl (lv_at hl 0 rfl) ?_
  refine lv_iconst (v := 3) hx hb dX12_findsBag_26 (by decide) ?_
  refine t_si hx hb hK hLA hB hS mba tba ai_77 (i_in (by decide) (by decide)) (show 0 ≤ (3 : Int32).toInt by decide) (show (3 : Int32).toInt ≤ 9 by decide) (Or.inr (by decide)) dX12_findsBag_27 (fun H locs σ_17 eσ_17 hB hS => ?_)
  have k_18 : σ_17 ba 3 = 3 := by rw [eσ_17]; exact up2_same _ _ _ _
  refine lv_iinc (v := 4) (lv' := [(3, .int 4), (2, .int 1), (0, .ref h0), (1, .int p1)]) hx hb dX12_findsBag_28 hl (k := 0) rfl (by decide) (by decide) rfl (fun ls hl => ?_)
  refine lv_goto (tgt := 9) hx hb dX12_findsBag_31 (by decide) ?_
  refine lv_iload_n hx hb dX12_findsBag_9 rfl (lv_at hl 0 rfl) ?_
  refine lv_iconst (v := 5) hx hb dX12_findsBag_10 (by decide) ?_
  refine lv_icmp_ge (tgt := 34) hx hb dX12_findsBag_11 (by decide) (fun c9 => absurd c9 (by decide)) (fun _ => ?_)
  refine lv_aload_n hx hb dX12_findsBag_14 rfl (lv_at hl 2 rfl) ?_
  refine t_gk hx hb hts hown hK hB mh0 th0 fq_12_28 hbr mw_6_4 dX12_findsBag_15 ?_
  refine lv_iload_n hx hb dX12_findsBag_18 rfl (lv_at hl 0 rfl) ?_
  refine lv_iconst (v := 0) hx hb dX12_findsBag_19 (by decide) ?_
  refine t_si hx hb hK hLA hB hS mbr tbr ai_75 (i_in (by decide) (by decide)) (show 0 ≤ (0 : Int32).toInt by decide) (show (0 : Int32).toInt ≤ 9 by decide) (Or.inr (by decide)) dX12_findsBag_20 (fun H locs σ_19 eσ_19 hB hS => ?_)
  have k_20 : σ_19 br 4 = 0 := by rw [eσ_19]; exact up2_same _ _ _ _
  refine lv_aload_n hx hb dX12_findsBag_21 rfl (lv_at hl 2 rfl) ?_
  refine t_gk hx hb hts hown hK hB mh0 th0 fq_12_32 hba mw_6_8 dX12_findsBag_22 ?_
  refine lv_iload_n hx hb dX12_findsBag_25 rfl (lv_at hl 0 rfl) ?_
  refine lv_iconst (v := 3) hx hb dX12_findsBag_26 (by decide) ?_
  refine t_si hx hb hK hLA hB hS mba tba ai_77 (i_in (by decide) (by decide)) (show 0 ≤ (3 : Int32).toInt by decide) (show (3 : Int32).toInt ≤ 9 by decide) (Or.inr (by decide)) dX12_findsBag_27 (fun H locs σ_21 eσ_21 hB hS => ?_)
  have k_22 : σ_21 ba 4 = 3 := by rw [eσ_21]; exact up2_same _ _ _ _
  refine lv_iinc (v := 5) (lv' := [(3, .int 5), (2, .int 1), (0, .ref h0), (1, .int p1)]) hx hb dX12_findsBag_28 hl (k := 0) rfl (by decide) (by decide) rfl (fun ls hl => ?_)
  refine lv_goto (tgt := 9) hx hb dX12_findsBag_31 (by decide) ?_
  refine lv_iload_n hx hb dX12_findsBag_9 rfl (lv_at hl 0 rfl) ?_
  refine lv_iconst (v := 5) hx hb dX12_findsBag_10 (by decide) ?_
  refine lv_icmp_ge (tgt := 34) hx hb dX12_findsBag_11 (by decide) (fun _ => ?_) (fun c9 => absurd (by decide) c9)
  have k_23 : σ_7 ba 0 = 3 := by rw [eσ_7, up2_nej _ _ (by decide)]; exact k_6
  have k_24 : σ_9 ba 0 = 3 := by rw [eσ_9, up2_nej _ _ (by decide)]; exact k_23
  have k_25 : σ_11 ba 0 = 3 := by rw [eσ_11, up2_nej _ _ (by decide)]; exact k_24
  have k_26 : σ_13 ba 0 = 3 := by rw [eσ_13, up2_nej _ _ (by decide)]; exact k_25
  have k_27 : σ_15 ba 0 = 3 := by rw [eσ_15, up2_nej _ _ (by decide)]; exact k_26
  have k_28 : σ_17 ba 0 = 3 := by rw [eσ_17, up2_nej _ _ (by decide)]; exact k_27
  have k_29 : σ_19 ba 0 = 3 := by rw [eσ_19, up2_nej _ _ (by decide)]; exact k_28
  have k_30 : σ_21 ba 0 = 3 := by rw [eσ_21, up2_nej _ _ (by decide)]; exact k_29
  have k_31 : σ_11 ba 1 = 3 := by rw [eσ_11, up2_nej _ _ (by decide)]; exact k_10
  have k_32 : σ_13 ba 1 = 3 := by rw [eσ_13, up2_nej _ _ (by decide)]; exact k_31
  have k_33 : σ_15 ba 1 = 3 := by rw [eσ_15, up2_nej _ _ (by decide)]; exact k_32
  have k_34 : σ_17 ba 1 = 3 := by rw [eσ_17, up2_nej _ _ (by decide)]; exact k_33
  have k_35 : σ_19 ba 1 = 3 := by rw [eσ_19, up2_nej _ _ (by decide)]; exact k_34
  have k_36 : σ_21 ba 1 = 3 := by rw [eσ_21, up2_nej _ _ (by decide)]; exact k_35
  have k_37 : σ_15 ba 2 = 3 := by rw [eσ_15, up2_nej _ _ (by decide)]; exact k_14
  have k_38 : σ_17 ba 2 = 3 := by rw [eσ_17, up2_nej _ _ (by decide)]; exact k_37
  have k_39 : σ_19 ba 2 = 3 := by rw [eσ_19, up2_nej _ _ (by decide)]; exact k_38
  have k_40 : σ_21 ba 2 = 3 := by rw [eσ_21, up2_nej _ _ (by decide)]; exact k_39
  have k_41 : σ_19 ba 3 = 3 := by rw [eσ_19, up2_nej _ _ (by decide)]; exact k_18
  have k_42 : σ_21 ba 3 = 3 := by rw [eσ_21, up2_nej _ _ (by decide)]; exact k_41
  have k_53 : σ_5 br 0 = 0 := by rw [eσ_5, up2_nea _ _ (tg_ne tbr tba (by decide))]; exact k_4
  have k_54 : σ_7 br 0 = 0 := by rw [eσ_7, up2_nej _ _ (by decide)]; exact k_53
  have k_55 : σ_9 br 0 = 0 := by rw [eσ_9, up2_nej _ _ (by decide)]; exact k_54
  have k_56 : σ_11 br 0 = 0 := by rw [eσ_11, up2_nej _ _ (by decide)]; exact k_55
  have k_57 : σ_13 br 0 = 0 := by rw [eσ_13, up2_nej _ _ (by decide)]; exact k_56
  have k_58 : σ_15 br 0 = 0 := by rw [eσ_15, up2_nej _ _ (by decide)]; exact k_57
  have k_59 : σ_17 br 0 = 0 := by rw [eσ_17, up2_nej _ _ (by decide)]; exact k_58
  have k_60 : σ_19 br 0 = 0 := by rw [eσ_19, up2_nej _ _ (by decide)]; exact k_59
  have k_61 : σ_21 br 0 = 0 := by rw [eσ_21, up2_nej _ _ (by decide)]; exact k_60
  have k_63 : σ_9 br 1 = 0 := by rw [eσ_9, up2_nea _ _ (tg_ne tbr tba (by decide))]; exact k_8
  have k_64 : σ_11 br 1 = 0 := by rw [eσ_11, up2_nej _ _ (by decide)]; exact k_63
  have k_65 : σ_13 br 1 = 0 := by rw [eσ_13, up2_nej _ _ (by decide)]; exact k_64
  have k_66 : σ_15 br 1 = 0 := by rw [eσ_15, up2_nej _ _ (by decide)]; exact k_65
  have k_67 : σ_17 br 1 = 0 := by rw [eσ_17, up2_nej _ _ (by decide)]; exact k_66
  have k_68 : σ_19 br 1 = 0 := by rw [eσ_19, up2_nej _ _ (by decide)]; exact k_67
  have k_69 : σ_21 br 1 = 0 := by rw [eσ_21, up2_nej _ _ (by decide)]; exact k_68
  have k_71 : σ_13 br 2 = 0 := by rw [eσ_13, up2_nea _ _ (tg_ne tbr tba (by decide))]; exact k_12
  have k_72 : σ_15 br 2 = 0 := by rw [eσ_15, up2_nej _ _ (by decide)]; exact k_71
  have k_73 : σ_17 br 2 = 0 := by rw [eσ_17, up2_nej _ _ (by decide)]; exact k_72
  have k_74 : σ_19 br 2 = 0 := by rw [eσ_19, up2_nej _ _ (by decide)]; exact k_73
  have k_75 : σ_21 br 2 = 0 := by rw [eσ_21, up2_nej _ _ (by decide)]; exact k_74
  have k_77 : σ_17 br 3 = 0 := by rw [eσ_17, up2_nea _ _ (tg_ne tbr tba (by decide))]; exact k_16
  have k_78 : σ_19 br 3 = 0 := by rw [eσ_19, up2_nej _ _ (by decide)]; exact k_77
  have k_79 : σ_21 br 3 = 0 := by rw [eσ_21, up2_nej _ _ (by decide)]; exact k_78
  have k_81 : σ_21 br 4 = 0 := by rw [eσ_21, up2_nea _ _ (tg_ne tbr tba (by decide))]; exact k_20
  refine w_loop (α := Int32 × Int32 × Sg × Lg) (fun (i_43, i_44, σ_45, ρ_46) H locs ls => 0 ≤ i_43.toInt ∧ i_43.toInt ≤ 1 ∧ σ_45 ba 0 = 3 ∧ σ_45 ba 1 = 3 ∧ σ_45 ba 2 = 3 ∧ σ_45 ba 3 = 3 ∧ σ_45 ba 4 = 3 ∧ ((σ_45 br 0).toInt ≤ (σ_45 ba 0).toInt) ∧ ((σ_45 br 1).toInt ≤ (σ_45 ba 1).toInt) ∧ ((σ_45 br 2).toInt ≤ (σ_45 ba 2).toInt) ∧ ((σ_45 br 3).toInt ≤ (σ_45 ba 3).toInt) ∧ ((σ_45 br 4).toInt ≤ (σ_45 ba 4).toInt) ∧ TS D cA L T r ry [(12, 30), (12, 31), (73, 1000), (74, 1000), (75, 1000), (76, 1000), (77, 1000)] σ σ_45 ρ_46 H ∧ va_S (dm L s.heap.size) s.heap H locs ∧ lv_has ls 5 [(3, .int i_44), (2, .int i_43), (0, .ref h0), (1, .int p1)]) (fun (i_43, i_44, σ_45, ρ_46) => (2 * (99999 - ((σ_45 br 0).toInt * 10000 + (σ_45 br 1).toInt * 1000 + (σ_45 br 2).toInt * 100 + (σ_45 br 3).toInt * 10 + (σ_45 br 4).toInt * 1)) + (i_43 : Int32).toInt).toNat) ?_ ⟨1, 5, σ_21, ρ⟩ ⟨(by decide), (by decide), k_30, k_36, k_40, k_42, k_22, (by rw [k_61, k_30]; (first | omega | decide)), (by rw [k_69, k_36]; (first | omega | decide)), (by rw [k_75, k_40]; (first | omega | decide)), (by rw [k_79, k_42]; (first | omega | decide)), (by rw [k_81, k_22]; (first | omega | decide)), hB, hS, lv_sub hl [0, 1, 2, 3] rfl⟩
  rintro ⟨i_43, i_44, σ_45, ρ_46⟩ H locs ls ⟨li_43, ui_43, k_48, k_49, k_50, k_51, k_52, g_62, g_70, g_76, g_80, g_82, hB, hS, hl⟩ ih_47
  have w_83 : 0 ≤ (σ_45 br 0).toInt ∧ (σ_45 br 0).toInt ≤ 9 := by have z := hB.2.1 br mbr 0; rw [tbr] at z; exact z
  have w_84 : 0 ≤ (σ_45 br 1).toInt ∧ (σ_45 br 1).toInt ≤ 9 := by have z := hB.2.1 br mbr 1; rw [tbr] at z; exact z
  have w_85 : 0 ≤ (σ_45 br 2).toInt ∧ (σ_45 br 2).toInt ≤ 9 := by have z := hB.2.1 br mbr 2; rw [tbr] at z; exact z
  have w_86 : 0 ≤ (σ_45 br 3).toInt ∧ (σ_45 br 3).toInt ≤ 9 := by have z := hB.2.1 br mbr 3; rw [tbr] at z; exact z
  have w_87 : 0 ≤ (σ_45 br 4).toInt ∧ (σ_45 br 4).toInt ≤ 9 := by have z := hB.2.1 br mbr 4; rw [tbr] at z; exact z
  have cq_88 : (σ_45 ba 0).toInt = 3 := by rw [k_48]; decide
  have cq_89 : (σ_45 ba 1).toInt = 3 := by rw [k_49]; decide
  have cq_90 : (σ_45 ba 2).toInt = 3 := by rw [k_50]; decide
  have cq_91 : (σ_45 ba 3).toInt = 3 := by rw [k_51]; decide
  have cq_92 : (σ_45 ba 4).toInt = 3 := by rw [k_52]; decide
  refine lv_iload_n hx hb dX12_findsBag_34 rfl (lv_at hl 1 rfl) ?_
  refine lv_if_eq (tgt := 153) hx hb dX12_findsBag_35 (by decide) (fun c_93 => ?_) (fun c_93 => ?_)
  · skip
    have uc_93 := i_eq (n := 0) (by decide) c_93
    exact W.vret hx hb hr (fun t ht hW => ⟨⟨(σ_45, ρ_46), rfl, ⟨hB.2.1, hB.2.2, trivial⟩, (show TP D cA L T r σ_45 ρ_46 t.heap from by rw [ht]; exact hB.1)⟩, hS.F ht⟩) hS.2.2 dX12_findsBag_153
  · skip
    have uc_93 := i_ne (n := 0) (by decide) c_93
    refine lv_aload_n hx hb dX12_findsBag_38 rfl (lv_at hl 2 rfl) ?_
    refine lv_iconst (v := 2) hx hb dX12_findsBag_39 (by decide) ?_
    refine t_ci (va_runV (As := [.int 2]) (rest := []) ⟨hx, hb, hml, hown, hts⟩ (cy_X12_rowSum l D cA L T r hG hLA.1 σ_45 ρ_46 hB.2.1 _ h0 mh0 th0 2 (by first | omega | decide) (by first | omega | decide)) (cV hts mv_X12_rowSum mw_8_18 rfl rfl ⟨Nat.le_of_ble_eq_true rfl, Nat.le_of_ble_eq_true rfl⟩) (pV hB.1 hK hN mh0 th0 (show shp cA 12 _ _ _ = .inr (12, Fs12 _ _ _) from rfl) rfl) rfl rfl hl.1 rfl (lv_room (Nat.le_of_ble_eq_true rfl)) dX12_findsBag_40 ⟨Nat.le_of_ble_eq_true rfl, Nat.le_of_ble_eq_true rfl⟩) hLA hA hB hS (by decide) (fun x_96 σ_94 ρ_95 H locs hB fσ_94 pσ_94 hS => ?_)
    have qσ_94 := FR.nil fσ_94
    subst qσ_94
    refine lv_istore_n (lv' := [(3, .int x_96), (2, .int i_43), (0, .ref h0), (1, .int p1)]) hx hb dX12_findsBag_43 rfl hl (by decide) rfl (fun ls hl => ?_)
    refine lv_iload_n hx hb dX12_findsBag_44 rfl (lv_at hl 0 rfl) ?_
    refine lv_aload_n hx hb dX12_findsBag_45 rfl (lv_at hl 2 rfl) ?_
    refine lv_iload_n hx hb dX12_findsBag_46 rfl (lv_at hl 3 rfl) ?_
    refine lv_iconst (v := 1) hx hb dX12_findsBag_47 (by decide) ?_
    refine t_ci (va_runV (As := [.int p1, .int 1]) (rest := [.int x_96]) ⟨hx, hb, hml, hown, hts⟩ (cy_X12_pilgrimOf l D cA L T r hG hLA.1 σ_45 ρ_95 hB.2.1 _ h0 mh0 th0 p1 1 (by first | omega | decide) (by first | omega | decide) (by first | omega | decide) (by first | omega | decide)) (cV hts mv_X12_pilgrimOf mw_7_69 rfl rfl ⟨Nat.le_of_ble_eq_true rfl, Nat.le_of_ble_eq_true rfl⟩) (pV hB.1 hK hN mh0 th0 (show shp cA 12 _ _ _ = .inr (12, Fs12 _ _ _) from rfl) rfl) rfl rfl hl.1 rfl (lv_room (Nat.le_of_ble_eq_true rfl)) dX12_findsBag_48 ⟨Nat.le_of_ble_eq_true rfl, Nat.le_of_ble_eq_true rfl⟩) hLA hA hB hS (by decide) (fun x_99 σ_97 ρ_98 H locs hB fσ_97 pσ_97 hS => ?_)
    have qσ_97 := FR.nil fσ_97
    subst qσ_97
    refine lv_icmp_gt (tgt := 141) hx hb dX12_findsBag_51 (by decide) (fun c_100 => ?_) (fun c_100 => ?_)
    · skip
      have uc_100 := j_lt c_100
      refine lv_aload_n hx hb dX12_findsBag_141 rfl (lv_at hl 2 rfl) ?_
      have cq_101 : (σ_45 ba 0).toInt = 3 := by rw [k_48]; decide
      have cq_102 : (σ_45 ba 1).toInt = 3 := by rw [k_49]; decide
      have cq_103 : (σ_45 ba 2).toInt = 3 := by rw [k_50]; decide
      have cq_104 : (σ_45 ba 3).toInt = 3 := by rw [k_51]; decide
      have cq_105 : (σ_45 ba 4).toInt = 3 := by rw [k_52]; decide
      refine t_cv (va_runV (As := []) (rest := []) ⟨hx, hb, hml, hown, hts⟩ (cz_X12_mostAgain l D cA L T r hG hLA.1 σ_45 ρ_98 hB.2.1 _ h0 mh0 th0 ba hba mba tba bm hbm mbm tbm) (cV hts mv_X12_mostAgain mw_8_30 rfl rfl ⟨Nat.le_of_ble_eq_true rfl, Nat.le_of_ble_eq_true rfl⟩) (pV hB.1 hK hN mh0 th0 (show shp cA 12 _ _ _ = .inr (12, Fs12 _ _ _) from rfl) rfl) rfl rfl hl.1 rfl (lv_room (Nat.le_of_ble_eq_true rfl)) dX12_findsBag_142 ⟨Nat.le_of_ble_eq_true rfl, Nat.le_of_ble_eq_true rfl⟩) hLA hA hB hS (by decide) (fun σ_106 ρ_107 H locs hB fσ_106 pσ_106 hS => ?_)
      obtain ⟨g_109, g_110, g_111, g_112, g_113⟩ := pσ_106
      refine lv_aload_n hx hb dX12_findsBag_145 rfl (lv_at hl 2 rfl) ?_
      have k_114 : σ_106 ba 0 = 3 := (FR.at fσ_106 tba (by decide)).trans k_48
      have cq_115 := congrArg Int32.toInt k_114
      have cq_116 := congrArg Int32.toInt g_109
      have k_117 : σ_106 br 0 = (σ_45 br 0) := (FR.at fσ_106 tbr (by decide)).trans rfl
      have cq_118 := congrArg Int32.toInt k_117
      have k_119 : σ_106 ba 1 = 3 := (FR.at fσ_106 tba (by decide)).trans k_49
      have cq_120 := congrArg Int32.toInt k_119
      have cq_121 := congrArg Int32.toInt g_110
      have k_122 : σ_106 br 1 = (σ_45 br 1) := (FR.at fσ_106 tbr (by decide)).trans rfl
      have cq_123 := congrArg Int32.toInt k_122
      have k_124 : σ_106 ba 2 = 3 := (FR.at fσ_106 tba (by decide)).trans k_50
      have cq_125 := congrArg Int32.toInt k_124
      have cq_126 := congrArg Int32.toInt g_111
      have k_127 : σ_106 br 2 = (σ_45 br 2) := (FR.at fσ_106 tbr (by decide)).trans rfl
      have cq_128 := congrArg Int32.toInt k_127
      have k_129 : σ_106 ba 3 = 3 := (FR.at fσ_106 tba (by decide)).trans k_51
      have cq_130 := congrArg Int32.toInt k_129
      have cq_131 := congrArg Int32.toInt g_112
      have k_132 : σ_106 br 3 = (σ_45 br 3) := (FR.at fσ_106 tbr (by decide)).trans rfl
      have cq_133 := congrArg Int32.toInt k_132
      have k_134 : σ_106 ba 4 = 3 := (FR.at fσ_106 tba (by decide)).trans k_52
      have cq_135 := congrArg Int32.toInt k_134
      have cq_136 := congrArg Int32.toInt g_113
      have k_137 : σ_106 br 4 = (σ_45 br 4) := (FR.at fσ_106 tbr (by decide)).trans rfl
      have cq_138 := congrArg Int32.toInt k_137
      refine t_ci (va_runV (As := []) (rest := []) ⟨hx, hb, hml, hown, hts⟩ (cz_X12_hasNextRow l D cA L T r hG hLA.1 σ_106 ρ_107 hB.2.1 _ h0 mh0 th0 br hbr mbr tbr bm hbm mbm tbm (by rw [k_117, g_109]; omega) (by rw [k_122, g_110]; omega) (by rw [k_127, g_111]; omega) (by rw [k_132, g_112]; omega) (by rw [k_137, g_113]; omega)) (cV hts mv_X12_hasNextRow mw_8_34 rfl rfl ⟨Nat.le_of_ble_eq_true rfl, Nat.le_of_ble_eq_true rfl⟩) (pV hB.1 hK hN mh0 th0 (show shp cA 12 _ _ _ = .inr (12, Fs12 _ _ _) from rfl) rfl) rfl rfl hl.1 rfl (lv_room (Nat.le_of_ble_eq_true rfl)) dX12_findsBag_146 ⟨Nat.le_of_ble_eq_true rfl, Nat.le_of_ble_eq_true rfl⟩) hLA hA hB hS (by decide) (fun x_141 σ_139 ρ_140 H locs hB fσ_139 pσ_139 hS => ?_)
      obtain ⟨g_142, g_143, g_144, g_145, g_146, g_147, g_148, g_149⟩ := pσ_139
      have w_150 : 0 ≤ (σ_139 br 0).toInt ∧ (σ_139 br 0).toInt ≤ 9 := by have z := hB.2.1 br mbr 0; rw [tbr] at z; exact z
      have w_151 : 0 ≤ (σ_139 br 1).toInt ∧ (σ_139 br 1).toInt ≤ 9 := by have z := hB.2.1 br mbr 1; rw [tbr] at z; exact z
      have w_152 : 0 ≤ (σ_139 br 2).toInt ∧ (σ_139 br 2).toInt ≤ 9 := by have z := hB.2.1 br mbr 2; rw [tbr] at z; exact z
      have w_153 : 0 ≤ (σ_139 br 3).toInt ∧ (σ_139 br 3).toInt ≤ 9 := by have z := hB.2.1 br mbr 3; rw [tbr] at z; exact z
      have w_154 : 0 ≤ (σ_139 br 4).toInt ∧ (σ_139 br 4).toInt ≤ 9 := by have z := hB.2.1 br mbr 4; rw [tbr] at z; exact z
      obtain ⟨lx_141, ux_141⟩ := g_142
      refine lv_istore_n (lv' := [(2, .int x_141), (3, .int x_96), (0, .ref h0), (1, .int p1)]) hx hb dX12_findsBag_149 rfl hl (by decide) rfl (fun ls hl => ?_)
      refine lv_goto (tgt := 34) hx hb dX12_findsBag_150 (by decide) ?_
      have k_155 : σ_139 ba 0 = 3 := (FR.at fσ_139 tba (by decide)).trans k_114
      have k_156 : σ_139 ba 1 = 3 := (FR.at fσ_139 tba (by decide)).trans k_119
      have k_157 : σ_139 ba 2 = 3 := (FR.at fσ_139 tba (by decide)).trans k_124
      have k_158 : σ_139 ba 3 = 3 := (FR.at fσ_139 tba (by decide)).trans k_129
      have k_159 : σ_139 ba 4 = 3 := (FR.at fσ_139 tba (by decide)).trans k_134
      exact ih_47 ⟨x_141, x_96, σ_139, ρ_140⟩ _ _ _ ⟨(by omega), (by omega), k_155, k_156, k_157, k_158, k_159, (by rw [k_155]; (first | omega | decide)), (by rw [k_156]; (first | omega | decide)), (by rw [k_157]; (first | omega | decide)), (by rw [k_158]; (first | omega | decide)), (by rw [k_159]; (first | omega | decide)), hB, hS, lv_sub hl [1, 0, 2, 3] rfl⟩ (by show (2 * (99999 - ((σ_139 br 0).toInt * 10000 + (σ_139 br 1).toInt * 1000 + (σ_139 br 2).toInt * 100 + (σ_139 br 3).toInt * 10 + (σ_139 br 4).toInt * 1)) + (x_141 : Int32).toInt).toNat < (2 * (99999 - ((σ_45 br 0).toInt * 10000 + (σ_45 br 1).toInt * 1000 + (σ_45 br 2).toInt * 100 + (σ_45 br 3).toInt * 10 + (σ_45 br 4).toInt * 1)) + (i_43 : Int32).toInt).toNat; omega)
    · skip
      have uc_100 := j_nlt c_100
      refine lv_aload_n hx hb dX12_findsBag_54 rfl (lv_at hl 2 rfl) ?_
      refine lv_iload_n hx hb dX12_findsBag_55 rfl (lv_at hl 3 rfl) ?_
      refine t_ci (va_runV (As := [.int p1]) (rest := []) ⟨hx, hb, hml, hown, hts⟩ (cy_X12_canHaveRow l D cA L T r hG hLA.1 σ_45 ρ_98 hB.2.1 _ h0 mh0 th0 p1 (by first | omega | decide) (by first | omega | decide)) (cV hts mv_X12_canHaveRow mw_8_22 rfl rfl ⟨Nat.le_of_ble_eq_true rfl, Nat.le_of_ble_eq_true rfl⟩) (pV hB.1 hK hN mh0 th0 (show shp cA 12 _ _ _ = .inr (12, Fs12 _ _ _) from rfl) rfl) rfl rfl hl.1 rfl (lv_room (Nat.le_of_ble_eq_true rfl)) dX12_findsBag_56 ⟨Nat.le_of_ble_eq_true rfl, Nat.le_of_ble_eq_true rfl⟩) hLA hA hB hS (by decide) (fun x_162 σ_160 ρ_161 H locs hB fσ_160 pσ_160 hS => ?_)
      have qσ_160 := FR.nil fσ_160
      subst qσ_160
      obtain ⟨lx_162, ux_162⟩ := pσ_160
      refine lv_if_eq (tgt := 141) hx hb dX12_findsBag_59 (by decide) (fun c_163 => ?_) (fun c_163 => ?_)
      · skip
        have uc_163 := i_eq (n := 0) (by decide) c_163
        refine lv_aload_n hx hb dX12_findsBag_141 rfl (lv_at hl 2 rfl) ?_
        have cq_164 : (σ_45 ba 0).toInt = 3 := by rw [k_48]; decide
        have cq_165 : (σ_45 ba 1).toInt = 3 := by rw [k_49]; decide
        have cq_166 : (σ_45 ba 2).toInt = 3 := by rw [k_50]; decide
        have cq_167 : (σ_45 ba 3).toInt = 3 := by rw [k_51]; decide
        have cq_168 : (σ_45 ba 4).toInt = 3 := by rw [k_52]; decide
        refine t_cv (va_runV (As := []) (rest := []) ⟨hx, hb, hml, hown, hts⟩ (cz_X12_mostAgain l D cA L T r hG hLA.1 σ_45 ρ_161 hB.2.1 _ h0 mh0 th0 ba hba mba tba bm hbm mbm tbm) (cV hts mv_X12_mostAgain mw_8_30 rfl rfl ⟨Nat.le_of_ble_eq_true rfl, Nat.le_of_ble_eq_true rfl⟩) (pV hB.1 hK hN mh0 th0 (show shp cA 12 _ _ _ = .inr (12, Fs12 _ _ _) from rfl) rfl) rfl rfl hl.1 rfl (lv_room (Nat.le_of_ble_eq_true rfl)) dX12_findsBag_142 ⟨Nat.le_of_ble_eq_true rfl, Nat.le_of_ble_eq_true rfl⟩) hLA hA hB hS (by decide) (fun σ_169 ρ_170 H locs hB fσ_169 pσ_169 hS => ?_)
        obtain ⟨g_172, g_173, g_174, g_175, g_176⟩ := pσ_169
        refine lv_aload_n hx hb dX12_findsBag_145 rfl (lv_at hl 2 rfl) ?_
        have k_177 : σ_169 ba 0 = 3 := (FR.at fσ_169 tba (by decide)).trans k_48
        have cq_178 := congrArg Int32.toInt k_177
        have cq_179 := congrArg Int32.toInt g_172
        have k_180 : σ_169 br 0 = (σ_45 br 0) := (FR.at fσ_169 tbr (by decide)).trans rfl
        have cq_181 := congrArg Int32.toInt k_180
        have k_182 : σ_169 ba 1 = 3 := (FR.at fσ_169 tba (by decide)).trans k_49
        have cq_183 := congrArg Int32.toInt k_182
        have cq_184 := congrArg Int32.toInt g_173
        have k_185 : σ_169 br 1 = (σ_45 br 1) := (FR.at fσ_169 tbr (by decide)).trans rfl
        have cq_186 := congrArg Int32.toInt k_185
        have k_187 : σ_169 ba 2 = 3 := (FR.at fσ_169 tba (by decide)).trans k_50
        have cq_188 := congrArg Int32.toInt k_187
        have cq_189 := congrArg Int32.toInt g_174
        have k_190 : σ_169 br 2 = (σ_45 br 2) := (FR.at fσ_169 tbr (by decide)).trans rfl
        have cq_191 := congrArg Int32.toInt k_190
        have k_192 : σ_169 ba 3 = 3 := (FR.at fσ_169 tba (by decide)).trans k_51
        have cq_193 := congrArg Int32.toInt k_192
        have cq_194 := congrArg Int32.toInt g_175
        have k_195 : σ_169 br 3 = (σ_45 br 3) := (FR.at fσ_169 tbr (by decide)).trans rfl
        have cq_196 := congrArg Int32.toInt k_195
        have k_197 : σ_169 ba 4 = 3 := (FR.at fσ_169 tba (by decide)).trans k_52
        have cq_198 := congrArg Int32.toInt k_197
        have cq_199 := congrArg Int32.toInt g_176
        have k_200 : σ_169 br 4 = (σ_45 br 4) := (FR.at fσ_169 tbr (by decide)).trans rfl
        have cq_201 := congrArg Int32.toInt k_200
        refine t_ci (va_runV (As := []) (rest := []) ⟨hx, hb, hml, hown, hts⟩ (cz_X12_hasNextRow l D cA L T r hG hLA.1 σ_169 ρ_170 hB.2.1 _ h0 mh0 th0 br hbr mbr tbr bm hbm mbm tbm (by rw [k_180, g_172]; omega) (by rw [k_185, g_173]; omega) (by rw [k_190, g_174]; omega) (by rw [k_195, g_175]; omega) (by rw [k_200, g_176]; omega)) (cV hts mv_X12_hasNextRow mw_8_34 rfl rfl ⟨Nat.le_of_ble_eq_true rfl, Nat.le_of_ble_eq_true rfl⟩) (pV hB.1 hK hN mh0 th0 (show shp cA 12 _ _ _ = .inr (12, Fs12 _ _ _) from rfl) rfl) rfl rfl hl.1 rfl (lv_room (Nat.le_of_ble_eq_true rfl)) dX12_findsBag_146 ⟨Nat.le_of_ble_eq_true rfl, Nat.le_of_ble_eq_true rfl⟩) hLA hA hB hS (by decide) (fun x_204 σ_202 ρ_203 H locs hB fσ_202 pσ_202 hS => ?_)
        obtain ⟨g_205, g_206, g_207, g_208, g_209, g_210, g_211, g_212⟩ := pσ_202
        have w_213 : 0 ≤ (σ_202 br 0).toInt ∧ (σ_202 br 0).toInt ≤ 9 := by have z := hB.2.1 br mbr 0; rw [tbr] at z; exact z
        have w_214 : 0 ≤ (σ_202 br 1).toInt ∧ (σ_202 br 1).toInt ≤ 9 := by have z := hB.2.1 br mbr 1; rw [tbr] at z; exact z
        have w_215 : 0 ≤ (σ_202 br 2).toInt ∧ (σ_202 br 2).toInt ≤ 9 := by have z := hB.2.1 br mbr 2; rw [tbr] at z; exact z
        have w_216 : 0 ≤ (σ_202 br 3).toInt ∧ (σ_202 br 3).toInt ≤ 9 := by have z := hB.2.1 br mbr 3; rw [tbr] at z; exact z
        have w_217 : 0 ≤ (σ_202 br 4).toInt ∧ (σ_202 br 4).toInt ≤ 9 := by have z := hB.2.1 br mbr 4; rw [tbr] at z; exact z
        obtain ⟨lx_204, ux_204⟩ := g_205
        refine lv_istore_n (lv' := [(2, .int x_204), (3, .int x_96), (0, .ref h0), (1, .int p1)]) hx hb dX12_findsBag_149 rfl hl (by decide) rfl (fun ls hl => ?_)
        refine lv_goto (tgt := 34) hx hb dX12_findsBag_150 (by decide) ?_
        have k_218 : σ_202 ba 0 = 3 := (FR.at fσ_202 tba (by decide)).trans k_177
        have k_219 : σ_202 ba 1 = 3 := (FR.at fσ_202 tba (by decide)).trans k_182
        have k_220 : σ_202 ba 2 = 3 := (FR.at fσ_202 tba (by decide)).trans k_187
        have k_221 : σ_202 ba 3 = 3 := (FR.at fσ_202 tba (by decide)).trans k_192
        have k_222 : σ_202 ba 4 = 3 := (FR.at fσ_202 tba (by decide)).trans k_197
        exact ih_47 ⟨x_204, x_96, σ_202, ρ_203⟩ _ _ _ ⟨(by omega), (by omega), k_218, k_219, k_220, k_221, k_222, (by rw [k_218]; (first | omega | decide)), (by rw [k_219]; (first | omega | decide)), (by rw [k_220]; (first | omega | decide)), (by rw [k_221]; (first | omega | decide)), (by rw [k_222]; (first | omega | decide)), hB, hS, lv_sub hl [1, 0, 2, 3] rfl⟩ (by show (2 * (99999 - ((σ_202 br 0).toInt * 10000 + (σ_202 br 1).toInt * 1000 + (σ_202 br 2).toInt * 100 + (σ_202 br 3).toInt * 10 + (σ_202 br 4).toInt * 1)) + (x_204 : Int32).toInt).toNat < (2 * (99999 - ((σ_45 br 0).toInt * 10000 + (σ_45 br 1).toInt * 1000 + (σ_45 br 2).toInt * 100 + (σ_45 br 3).toInt * 10 + (σ_45 br 4).toInt * 1)) + (i_43 : Int32).toInt).toNat; omega)
      · skip
        have uc_163 := i_ne (n := 0) (by decide) c_163
        refine lv_iconst (v := 0) hx hb dX12_findsBag_62 (by decide) ?_
        refine lv_istore (lv' := [(4, .int 0), (3, .int x_96), (2, .int i_43), (0, .ref h0), (1, .int p1)]) hx hb dX12_findsBag_63 hl (by decide) rfl (fun ls hl => ?_)
        refine w_loop (α := Int32 × Sg × Lg) (fun (i_223, σ_224, ρ_225) H locs ls => 0 ≤ i_223.toInt ∧ i_223.toInt ≤ 5 ∧ σ_224 ba 0 = 3 ∧ σ_224 ba 1 = 3 ∧ σ_224 ba 2 = 3 ∧ σ_224 ba 3 = 3 ∧ σ_224 ba 4 = 3 ∧ σ_224 br 0 = (σ_45 br 0) ∧ σ_224 br 1 = (σ_45 br 1) ∧ σ_224 br 2 = (σ_45 br 2) ∧ σ_224 br 3 = (σ_45 br 3) ∧ σ_224 br 4 = (σ_45 br 4) ∧ TS D cA L T r ry [(12, 30), (12, 31), (73, 1000), (74, 1000), (75, 1000), (76, 1000), (77, 1000)] σ σ_224 ρ_225 H ∧ va_S (dm L s.heap.size) s.heap H locs ∧ lv_has ls 5 [(4, .int i_223), (3, .int x_96), (2, .int i_43), (0, .ref h0), (1, .int p1)]) (fun (i_223, σ_224, ρ_225) => (5 - i_223.toInt).toNat) ?_ ⟨0, σ_45, ρ_161⟩ ⟨(by decide), (by decide), k_48, k_49, k_50, k_51, k_52, rfl, rfl, rfl, rfl, rfl, hB, hS, lv_sub hl [0, 1, 2, 3, 4] rfl⟩
        rintro ⟨i_223, σ_224, ρ_225⟩ H locs ls ⟨li_223, ui_223, k_227, k_228, k_229, k_230, k_231, k_232, k_233, k_234, k_235, k_236, hB, hS, hl⟩ ih_226
        refine lv_iload hx hb dX12_findsBag_65 (lv_at hl 0 rfl) ?_
        refine lv_iconst (v := 5) hx hb dX12_findsBag_67 (by decide) ?_
        refine lv_icmp_ge (tgt := 99) hx hb dX12_findsBag_68 (by decide) (fun c_237 => ?_) (fun c_237 => ?_)
        · skip
          have uc_237 := i_ge (n := 5) (by decide) c_237
          refine lv_aload_n hx hb dX12_findsBag_99 rfl (lv_at hl 3 rfl) ?_
          refine lv_iconst (v := 0) hx hb dX12_findsBag_100 (by decide) ?_
          refine lv_iconst (v := (-1)) hx hb dX12_findsBag_101 (by decide) ?_
          refine lv_iconst (v := 1) hx hb dX12_findsBag_102 (by decide) ?_
          refine t_ci (va_runV (As := [.int 0, .int (-1), .int 1]) (rest := []) ⟨hx, hb, hml, hown, hts⟩ (cy_X12_waysWith l D cA L T r hG hLA.1 σ_224 ρ_225 hB.2.1 _ h0 mh0 th0 0 ((-1)) 1 (by first | omega | decide) (by first | omega | decide)) (cV hts mv_X12_waysWith mw_7_230 rfl rfl ⟨Nat.le_of_ble_eq_true rfl, Nat.le_of_ble_eq_true rfl⟩) (pV hB.1 hK hN mh0 th0 (show shp cA 12 _ _ _ = .inr (12, Fs12 _ _ _) from rfl) rfl) rfl rfl hl.1 rfl (lv_room (Nat.le_of_ble_eq_true rfl)) dX12_findsBag_103 ⟨Nat.le_of_ble_eq_true rfl, Nat.le_of_ble_eq_true rfl⟩) hLA hA hB hS (by decide) (fun x_240 σ_238 ρ_239 H locs hB fσ_238 pσ_238 hS => ?_)
          refine lv_istore (lv' := [(4, .int x_240), (3, .int x_96), (2, .int i_43), (0, .ref h0), (1, .int p1)]) hx hb dX12_findsBag_106 hl (by decide) rfl (fun ls hl => ?_)
          refine lv_iload hx hb dX12_findsBag_108 (lv_at hl 0 rfl) ?_
          refine lv_aload_n hx hb dX12_findsBag_110 rfl (lv_at hl 3 rfl) ?_
          refine t_gi hx hb hts hown hK hB mh0 th0 fi_12_30 rfl mw_6_6 dX12_findsBag_111 (fun x_241 ex_241 lx_241 ux_241 => ?_)
          have cx_241 := congrArg Int32.toInt ex_241
          refine lv_icmp_gt (tgt := 134) hx hb dX12_findsBag_114 (by decide) (fun c_242 => ?_) (fun c_242 => ?_)
          · skip
            have uc_242 := j_lt c_242
            refine lv_aload_n hx hb dX12_findsBag_134 rfl (lv_at hl 3 rfl) ?_
            refine lv_iload hx hb dX12_findsBag_135 (lv_at hl 0 rfl) ?_
            refine lv_iload_n hx hb dX12_findsBag_137 rfl (lv_at hl 1 rfl) ?_
            refine t_cv (va_runV (As := [.int x_240, .int x_96]) (rest := []) ⟨hx, hb, hml, hown, hts⟩ (cy_X12_keepsRow l D cA L T r hG hLA.1 σ_238 ρ_239 hB.2.1 _ h0 mh0 th0 x_240 x_96) (cV hts mv_X12_keepsRow mw_8_26 rfl rfl ⟨Nat.le_of_ble_eq_true rfl, Nat.le_of_ble_eq_true rfl⟩) (pV hB.1 hK hN mh0 th0 (show shp cA 12 _ _ _ = .inr (12, Fs12 _ _ _) from rfl) rfl) rfl rfl hl.1 rfl (lv_room (Nat.le_of_ble_eq_true rfl)) dX12_findsBag_138 ⟨Nat.le_of_ble_eq_true rfl, Nat.le_of_ble_eq_true rfl⟩) hLA hA hB hS (by decide) (fun σ_243 ρ_244 H locs hB fσ_243 pσ_243 hS => ?_)
            refine lv_aload_n hx hb dX12_findsBag_141 rfl (lv_at hl 3 rfl) ?_
            have k_246 : σ_238 ba 0 = 3 := (FR.at fσ_238 tba (by decide)).trans k_227
            have k_247 : σ_243 ba 0 = 3 := (FR.at fσ_243 tba (by decide)).trans k_246
            have cq_248 : (σ_243 ba 0).toInt = 3 := by rw [k_247]; decide
            have k_249 : σ_238 ba 1 = 3 := (FR.at fσ_238 tba (by decide)).trans k_228
            have k_250 : σ_243 ba 1 = 3 := (FR.at fσ_243 tba (by decide)).trans k_249
            have cq_251 : (σ_243 ba 1).toInt = 3 := by rw [k_250]; decide
            have k_252 : σ_238 ba 2 = 3 := (FR.at fσ_238 tba (by decide)).trans k_229
            have k_253 : σ_243 ba 2 = 3 := (FR.at fσ_243 tba (by decide)).trans k_252
            have cq_254 : (σ_243 ba 2).toInt = 3 := by rw [k_253]; decide
            have k_255 : σ_238 ba 3 = 3 := (FR.at fσ_238 tba (by decide)).trans k_230
            have k_256 : σ_243 ba 3 = 3 := (FR.at fσ_243 tba (by decide)).trans k_255
            have cq_257 : (σ_243 ba 3).toInt = 3 := by rw [k_256]; decide
            have k_258 : σ_238 ba 4 = 3 := (FR.at fσ_238 tba (by decide)).trans k_231
            have k_259 : σ_243 ba 4 = 3 := (FR.at fσ_243 tba (by decide)).trans k_258
            have cq_260 : (σ_243 ba 4).toInt = 3 := by rw [k_259]; decide
            refine t_cv (va_runV (As := []) (rest := []) ⟨hx, hb, hml, hown, hts⟩ (cz_X12_mostAgain l D cA L T r hG hLA.1 σ_243 ρ_244 hB.2.1 _ h0 mh0 th0 ba hba mba tba bm hbm mbm tbm) (cV hts mv_X12_mostAgain mw_8_30 rfl rfl ⟨Nat.le_of_ble_eq_true rfl, Nat.le_of_ble_eq_true rfl⟩) (pV hB.1 hK hN mh0 th0 (show shp cA 12 _ _ _ = .inr (12, Fs12 _ _ _) from rfl) rfl) rfl rfl hl.1 rfl (lv_room (Nat.le_of_ble_eq_true rfl)) dX12_findsBag_142 ⟨Nat.le_of_ble_eq_true rfl, Nat.le_of_ble_eq_true rfl⟩) hLA hA hB hS (by decide) (fun σ_261 ρ_262 H locs hB fσ_261 pσ_261 hS => ?_)
            obtain ⟨g_264, g_265, g_266, g_267, g_268⟩ := pσ_261
            refine lv_aload_n hx hb dX12_findsBag_145 rfl (lv_at hl 3 rfl) ?_
            have k_269 : σ_261 ba 0 = 3 := (FR.at fσ_261 tba (by decide)).trans k_247
            have cq_270 := congrArg Int32.toInt k_269
            have cq_271 := congrArg Int32.toInt g_264
            have k_272 : σ_238 br 0 = (σ_45 br 0) := (FR.at fσ_238 tbr (by decide)).trans k_232
            have k_273 : σ_243 br 0 = (σ_45 br 0) := (FR.at fσ_243 tbr (by decide)).trans k_272
            have k_274 : σ_261 br 0 = (σ_45 br 0) := (FR.at fσ_261 tbr (by decide)).trans k_273
            have cq_275 := congrArg Int32.toInt k_274
            have k_276 : σ_261 ba 1 = 3 := (FR.at fσ_261 tba (by decide)).trans k_250
            have cq_277 := congrArg Int32.toInt k_276
            have cq_278 := congrArg Int32.toInt g_265
            have k_279 : σ_238 br 1 = (σ_45 br 1) := (FR.at fσ_238 tbr (by decide)).trans k_233
            have k_280 : σ_243 br 1 = (σ_45 br 1) := (FR.at fσ_243 tbr (by decide)).trans k_279
            have k_281 : σ_261 br 1 = (σ_45 br 1) := (FR.at fσ_261 tbr (by decide)).trans k_280
            have cq_282 := congrArg Int32.toInt k_281
            have k_283 : σ_261 ba 2 = 3 := (FR.at fσ_261 tba (by decide)).trans k_253
            have cq_284 := congrArg Int32.toInt k_283
            have cq_285 := congrArg Int32.toInt g_266
            have k_286 : σ_238 br 2 = (σ_45 br 2) := (FR.at fσ_238 tbr (by decide)).trans k_234
            have k_287 : σ_243 br 2 = (σ_45 br 2) := (FR.at fσ_243 tbr (by decide)).trans k_286
            have k_288 : σ_261 br 2 = (σ_45 br 2) := (FR.at fσ_261 tbr (by decide)).trans k_287
            have cq_289 := congrArg Int32.toInt k_288
            have k_290 : σ_261 ba 3 = 3 := (FR.at fσ_261 tba (by decide)).trans k_256
            have cq_291 := congrArg Int32.toInt k_290
            have cq_292 := congrArg Int32.toInt g_267
            have k_293 : σ_238 br 3 = (σ_45 br 3) := (FR.at fσ_238 tbr (by decide)).trans k_235
            have k_294 : σ_243 br 3 = (σ_45 br 3) := (FR.at fσ_243 tbr (by decide)).trans k_293
            have k_295 : σ_261 br 3 = (σ_45 br 3) := (FR.at fσ_261 tbr (by decide)).trans k_294
            have cq_296 := congrArg Int32.toInt k_295
            have k_297 : σ_261 ba 4 = 3 := (FR.at fσ_261 tba (by decide)).trans k_259
            have cq_298 := congrArg Int32.toInt k_297
            have cq_299 := congrArg Int32.toInt g_268
            have k_300 : σ_238 br 4 = (σ_45 br 4) := (FR.at fσ_238 tbr (by decide)).trans k_236
            have k_301 : σ_243 br 4 = (σ_45 br 4) := (FR.at fσ_243 tbr (by decide)).trans k_300
            have k_302 : σ_261 br 4 = (σ_45 br 4) := (FR.at fσ_261 tbr (by decide)).trans k_301
            have cq_303 := congrArg Int32.toInt k_302
            refine t_ci (va_runV (As := []) (rest := []) ⟨hx, hb, hml, hown, hts⟩ (cz_X12_hasNextRow l D cA L T r hG hLA.1 σ_261 ρ_262 hB.2.1 _ h0 mh0 th0 br hbr mbr tbr bm hbm mbm tbm (by rw [k_274, g_264]; omega) (by rw [k_281, g_265]; omega) (by rw [k_288, g_266]; omega) (by rw [k_295, g_267]; omega) (by rw [k_302, g_268]; omega)) (cV hts mv_X12_hasNextRow mw_8_34 rfl rfl ⟨Nat.le_of_ble_eq_true rfl, Nat.le_of_ble_eq_true rfl⟩) (pV hB.1 hK hN mh0 th0 (show shp cA 12 _ _ _ = .inr (12, Fs12 _ _ _) from rfl) rfl) rfl rfl hl.1 rfl (lv_room (Nat.le_of_ble_eq_true rfl)) dX12_findsBag_146 ⟨Nat.le_of_ble_eq_true rfl, Nat.le_of_ble_eq_true rfl⟩) hLA hA hB hS (by decide) (fun x_306 σ_304 ρ_305 H locs hB fσ_304 pσ_304 hS => ?_)
            obtain ⟨g_307, g_308, g_309, g_310, g_311, g_312, g_313, g_314⟩ := pσ_304
            have w_315 : 0 ≤ (σ_304 br 0).toInt ∧ (σ_304 br 0).toInt ≤ 9 := by have z := hB.2.1 br mbr 0; rw [tbr] at z; exact z
            have w_316 : 0 ≤ (σ_304 br 1).toInt ∧ (σ_304 br 1).toInt ≤ 9 := by have z := hB.2.1 br mbr 1; rw [tbr] at z; exact z
            have w_317 : 0 ≤ (σ_304 br 2).toInt ∧ (σ_304 br 2).toInt ≤ 9 := by have z := hB.2.1 br mbr 2; rw [tbr] at z; exact z
            have w_318 : 0 ≤ (σ_304 br 3).toInt ∧ (σ_304 br 3).toInt ≤ 9 := by have z := hB.2.1 br mbr 3; rw [tbr] at z; exact z
            have w_319 : 0 ≤ (σ_304 br 4).toInt ∧ (σ_304 br 4).toInt ≤ 9 := by have z := hB.2.1 br mbr 4; rw [tbr] at z; exact z
            obtain ⟨lx_306, ux_306⟩ := g_307
            refine lv_istore_n (lv' := [(2, .int x_306), (4, .int x_240), (3, .int x_96), (0, .ref h0), (1, .int p1)]) hx hb dX12_findsBag_149 rfl hl (by decide) rfl (fun ls hl => ?_)
            refine lv_goto (tgt := 34) hx hb dX12_findsBag_150 (by decide) ?_
            have k_320 : σ_304 ba 0 = 3 := (FR.at fσ_304 tba (by decide)).trans k_269
            have k_321 : σ_304 ba 1 = 3 := (FR.at fσ_304 tba (by decide)).trans k_276
            have k_322 : σ_304 ba 2 = 3 := (FR.at fσ_304 tba (by decide)).trans k_283
            have k_323 : σ_304 ba 3 = 3 := (FR.at fσ_304 tba (by decide)).trans k_290
            have k_324 : σ_304 ba 4 = 3 := (FR.at fσ_304 tba (by decide)).trans k_297
            exact ih_47 ⟨x_306, x_96, σ_304, ρ_305⟩ _ _ _ ⟨(by omega), (by omega), k_320, k_321, k_322, k_323, k_324, (by rw [k_320]; (first | omega | decide)), (by rw [k_321]; (first | omega | decide)), (by rw [k_322]; (first | omega | decide)), (by rw [k_323]; (first | omega | decide)), (by rw [k_324]; (first | omega | decide)), hB, hS, lv_sub hl [2, 0, 3, 4] rfl⟩ (by show (2 * (99999 - ((σ_304 br 0).toInt * 10000 + (σ_304 br 1).toInt * 1000 + (σ_304 br 2).toInt * 100 + (σ_304 br 3).toInt * 10 + (σ_304 br 4).toInt * 1)) + (x_306 : Int32).toInt).toNat < (2 * (99999 - ((σ_45 br 0).toInt * 10000 + (σ_45 br 1).toInt * 1000 + (σ_45 br 2).toInt * 100 + (σ_45 br 3).toInt * 10 + (σ_45 br 4).toInt * 1)) + (i_43 : Int32).toInt).toNat; omega)
          · skip
            have uc_242 := j_nlt c_242
            refine lv_iload hx hb dX12_findsBag_117 (lv_at hl 0 rfl) ?_
            refine lv_aload_n hx hb dX12_findsBag_119 rfl (lv_at hl 3 rfl) ?_
            refine t_gv hx hb hts hown hK hB mh0 th0 fi_12_30 ex_241.symm mw_6_6 dX12_findsBag_120 ?_
            refine lv_icmp_ne (tgt := 141) hx hb dX12_findsBag_123 (by decide) (fun c_325 => ?_) (fun c_325 => ?_)
            · skip
              have uc_325 := j_ne c_325
              refine lv_aload_n hx hb dX12_findsBag_141 rfl (lv_at hl 3 rfl) ?_
              have k_326 : σ_238 ba 0 = 3 := (FR.at fσ_238 tba (by decide)).trans k_227
              have cq_327 : (σ_238 ba 0).toInt = 3 := by rw [k_326]; decide
              have k_328 : σ_238 ba 1 = 3 := (FR.at fσ_238 tba (by decide)).trans k_228
              have cq_329 : (σ_238 ba 1).toInt = 3 := by rw [k_328]; decide
              have k_330 : σ_238 ba 2 = 3 := (FR.at fσ_238 tba (by decide)).trans k_229
              have cq_331 : (σ_238 ba 2).toInt = 3 := by rw [k_330]; decide
              have k_332 : σ_238 ba 3 = 3 := (FR.at fσ_238 tba (by decide)).trans k_230
              have cq_333 : (σ_238 ba 3).toInt = 3 := by rw [k_332]; decide
              have k_334 : σ_238 ba 4 = 3 := (FR.at fσ_238 tba (by decide)).trans k_231
              have cq_335 : (σ_238 ba 4).toInt = 3 := by rw [k_334]; decide
              refine t_cv (va_runV (As := []) (rest := []) ⟨hx, hb, hml, hown, hts⟩ (cz_X12_mostAgain l D cA L T r hG hLA.1 σ_238 ρ_239 hB.2.1 _ h0 mh0 th0 ba hba mba tba bm hbm mbm tbm) (cV hts mv_X12_mostAgain mw_8_30 rfl rfl ⟨Nat.le_of_ble_eq_true rfl, Nat.le_of_ble_eq_true rfl⟩) (pV hB.1 hK hN mh0 th0 (show shp cA 12 _ _ _ = .inr (12, Fs12 _ _ _) from rfl) rfl) rfl rfl hl.1 rfl (lv_room (Nat.le_of_ble_eq_true rfl)) dX12_findsBag_142 ⟨Nat.le_of_ble_eq_true rfl, Nat.le_of_ble_eq_true rfl⟩) hLA hA hB hS (by decide) (fun σ_336 ρ_337 H locs hB fσ_336 pσ_336 hS => ?_)
              obtain ⟨g_339, g_340, g_341, g_342, g_343⟩ := pσ_336
              refine lv_aload_n hx hb dX12_findsBag_145 rfl (lv_at hl 3 rfl) ?_
              have k_344 : σ_336 ba 0 = 3 := (FR.at fσ_336 tba (by decide)).trans k_326
              have cq_345 := congrArg Int32.toInt k_344
              have cq_346 := congrArg Int32.toInt g_339
              have k_347 : σ_238 br 0 = (σ_45 br 0) := (FR.at fσ_238 tbr (by decide)).trans k_232
              have k_348 : σ_336 br 0 = (σ_45 br 0) := (FR.at fσ_336 tbr (by decide)).trans k_347
              have cq_349 := congrArg Int32.toInt k_348
              have k_350 : σ_336 ba 1 = 3 := (FR.at fσ_336 tba (by decide)).trans k_328
              have cq_351 := congrArg Int32.toInt k_350
              have cq_352 := congrArg Int32.toInt g_340
              have k_353 : σ_238 br 1 = (σ_45 br 1) := (FR.at fσ_238 tbr (by decide)).trans k_233
              have k_354 : σ_336 br 1 = (σ_45 br 1) := (FR.at fσ_336 tbr (by decide)).trans k_353
              have cq_355 := congrArg Int32.toInt k_354
              have k_356 : σ_336 ba 2 = 3 := (FR.at fσ_336 tba (by decide)).trans k_330
              have cq_357 := congrArg Int32.toInt k_356
              have cq_358 := congrArg Int32.toInt g_341
              have k_359 : σ_238 br 2 = (σ_45 br 2) := (FR.at fσ_238 tbr (by decide)).trans k_234
              have k_360 : σ_336 br 2 = (σ_45 br 2) := (FR.at fσ_336 tbr (by decide)).trans k_359
              have cq_361 := congrArg Int32.toInt k_360
              have k_362 : σ_336 ba 3 = 3 := (FR.at fσ_336 tba (by decide)).trans k_332
              have cq_363 := congrArg Int32.toInt k_362
              have cq_364 := congrArg Int32.toInt g_342
              have k_365 : σ_238 br 3 = (σ_45 br 3) := (FR.at fσ_238 tbr (by decide)).trans k_235
              have k_366 : σ_336 br 3 = (σ_45 br 3) := (FR.at fσ_336 tbr (by decide)).trans k_365
              have cq_367 := congrArg Int32.toInt k_366
              have k_368 : σ_336 ba 4 = 3 := (FR.at fσ_336 tba (by decide)).trans k_334
              have cq_369 := congrArg Int32.toInt k_368
              have cq_370 := congrArg Int32.toInt g_343
              have k_371 : σ_238 br 4 = (σ_45 br 4) := (FR.at fσ_238 tbr (by decide)).trans k_236
              have k_372 : σ_336 br 4 = (σ_45 br 4) := (FR.at fσ_336 tbr (by decide)).trans k_371
              have cq_373 := congrArg Int32.toInt k_372
              refine t_ci (va_runV (As := []) (rest := []) ⟨hx, hb, hml, hown, hts⟩ (cz_X12_hasNextRow l D cA L T r hG hLA.1 σ_336 ρ_337 hB.2.1 _ h0 mh0 th0 br hbr mbr tbr bm hbm mbm tbm (by rw [k_348, g_339]; omega) (by rw [k_354, g_340]; omega) (by rw [k_360, g_341]; omega) (by rw [k_366, g_342]; omega) (by rw [k_372, g_343]; omega)) (cV hts mv_X12_hasNextRow mw_8_34 rfl rfl ⟨Nat.le_of_ble_eq_true rfl, Nat.le_of_ble_eq_true rfl⟩) (pV hB.1 hK hN mh0 th0 (show shp cA 12 _ _ _ = .inr (12, Fs12 _ _ _) from rfl) rfl) rfl rfl hl.1 rfl (lv_room (Nat.le_of_ble_eq_true rfl)) dX12_findsBag_146 ⟨Nat.le_of_ble_eq_true rfl, Nat.le_of_ble_eq_true rfl⟩) hLA hA hB hS (by decide) (fun x_376 σ_374 ρ_375 H locs hB fσ_374 pσ_374 hS => ?_)
              obtain ⟨g_377, g_378, g_379, g_380, g_381, g_382, g_383, g_384⟩ := pσ_374
              have w_385 : 0 ≤ (σ_374 br 0).toInt ∧ (σ_374 br 0).toInt ≤ 9 := by have z := hB.2.1 br mbr 0; rw [tbr] at z; exact z
              have w_386 : 0 ≤ (σ_374 br 1).toInt ∧ (σ_374 br 1).toInt ≤ 9 := by have z := hB.2.1 br mbr 1; rw [tbr] at z; exact z
              have w_387 : 0 ≤ (σ_374 br 2).toInt ∧ (σ_374 br 2).toInt ≤ 9 := by have z := hB.2.1 br mbr 2; rw [tbr] at z; exact z
              have w_388 : 0 ≤ (σ_374 br 3).toInt ∧ (σ_374 br 3).toInt ≤ 9 := by have z := hB.2.1 br mbr 3; rw [tbr] at z; exact z
              have w_389 : 0 ≤ (σ_374 br 4).toInt ∧ (σ_374 br 4).toInt ≤ 9 := by have z := hB.2.1 br mbr 4; rw [tbr] at z; exact z
              obtain ⟨lx_376, ux_376⟩ := g_377
              refine lv_istore_n (lv' := [(2, .int x_376), (4, .int x_240), (3, .int x_96), (0, .ref h0), (1, .int p1)]) hx hb dX12_findsBag_149 rfl hl (by decide) rfl (fun ls hl => ?_)
              refine lv_goto (tgt := 34) hx hb dX12_findsBag_150 (by decide) ?_
              have k_390 : σ_374 ba 0 = 3 := (FR.at fσ_374 tba (by decide)).trans k_344
              have k_391 : σ_374 ba 1 = 3 := (FR.at fσ_374 tba (by decide)).trans k_350
              have k_392 : σ_374 ba 2 = 3 := (FR.at fσ_374 tba (by decide)).trans k_356
              have k_393 : σ_374 ba 3 = 3 := (FR.at fσ_374 tba (by decide)).trans k_362
              have k_394 : σ_374 ba 4 = 3 := (FR.at fσ_374 tba (by decide)).trans k_368
              exact ih_47 ⟨x_376, x_96, σ_374, ρ_375⟩ _ _ _ ⟨(by omega), (by omega), k_390, k_391, k_392, k_393, k_394, (by rw [k_390]; (first | omega | decide)), (by rw [k_391]; (first | omega | decide)), (by rw [k_392]; (first | omega | decide)), (by rw [k_393]; (first | omega | decide)), (by rw [k_394]; (first | omega | decide)), hB, hS, lv_sub hl [2, 0, 3, 4] rfl⟩ (by show (2 * (99999 - ((σ_374 br 0).toInt * 10000 + (σ_374 br 1).toInt * 1000 + (σ_374 br 2).toInt * 100 + (σ_374 br 3).toInt * 10 + (σ_374 br 4).toInt * 1)) + (x_376 : Int32).toInt).toNat < (2 * (99999 - ((σ_45 br 0).toInt * 10000 + (σ_45 br 1).toInt * 1000 + (σ_45 br 2).toInt * 100 + (σ_45 br 3).toInt * 10 + (σ_45 br 4).toInt * 1)) + (i_43 : Int32).toInt).toNat; omega)
            · skip
              have uc_325 := j_eq c_325
              refine lv_iload_n hx hb dX12_findsBag_126 rfl (lv_at hl 1 rfl) ?_
              refine lv_aload_n hx hb dX12_findsBag_127 rfl (lv_at hl 3 rfl) ?_
              refine t_gi hx hb hts hown hK hB mh0 th0 fi_12_31 rfl mw_6_7 dX12_findsBag_128 (fun x_395 ex_395 lx_395 ux_395 => ?_)
              have cx_395 := congrArg Int32.toInt ex_395
              refine lv_icmp_ge (tgt := 141) hx hb dX12_findsBag_131 (by decide) (fun c_396 => ?_) (fun c_396 => ?_)
              · skip
                have uc_396 := j_le c_396
                refine lv_aload_n hx hb dX12_findsBag_141 rfl (lv_at hl 3 rfl) ?_
                have k_397 : σ_238 ba 0 = 3 := (FR.at fσ_238 tba (by decide)).trans k_227
                have cq_398 : (σ_238 ba 0).toInt = 3 := by rw [k_397]; decide
                have k_399 : σ_238 ba 1 = 3 := (FR.at fσ_238 tba (by decide)).trans k_228
                have cq_400 : (σ_238 ba 1).toInt = 3 := by rw [k_399]; decide
                have k_401 : σ_238 ba 2 = 3 := (FR.at fσ_238 tba (by decide)).trans k_229
                have cq_402 : (σ_238 ba 2).toInt = 3 := by rw [k_401]; decide
                have k_403 : σ_238 ba 3 = 3 := (FR.at fσ_238 tba (by decide)).trans k_230
                have cq_404 : (σ_238 ba 3).toInt = 3 := by rw [k_403]; decide
                have k_405 : σ_238 ba 4 = 3 := (FR.at fσ_238 tba (by decide)).trans k_231
                have cq_406 : (σ_238 ba 4).toInt = 3 := by rw [k_405]; decide
                refine t_cv (va_runV (As := []) (rest := []) ⟨hx, hb, hml, hown, hts⟩ (cz_X12_mostAgain l D cA L T r hG hLA.1 σ_238 ρ_239 hB.2.1 _ h0 mh0 th0 ba hba mba tba bm hbm mbm tbm) (cV hts mv_X12_mostAgain mw_8_30 rfl rfl ⟨Nat.le_of_ble_eq_true rfl, Nat.le_of_ble_eq_true rfl⟩) (pV hB.1 hK hN mh0 th0 (show shp cA 12 _ _ _ = .inr (12, Fs12 _ _ _) from rfl) rfl) rfl rfl hl.1 rfl (lv_room (Nat.le_of_ble_eq_true rfl)) dX12_findsBag_142 ⟨Nat.le_of_ble_eq_true rfl, Nat.le_of_ble_eq_true rfl⟩) hLA hA hB hS (by decide) (fun σ_407 ρ_408 H locs hB fσ_407 pσ_407 hS => ?_)
                obtain ⟨g_410, g_411, g_412, g_413, g_414⟩ := pσ_407
                refine lv_aload_n hx hb dX12_findsBag_145 rfl (lv_at hl 3 rfl) ?_
                have k_415 : σ_407 ba 0 = 3 := (FR.at fσ_407 tba (by decide)).trans k_397
                have cq_416 := congrArg Int32.toInt k_415
                have cq_417 := congrArg Int32.toInt g_410
                have k_418 : σ_238 br 0 = (σ_45 br 0) := (FR.at fσ_238 tbr (by decide)).trans k_232
                have k_419 : σ_407 br 0 = (σ_45 br 0) := (FR.at fσ_407 tbr (by decide)).trans k_418
                have cq_420 := congrArg Int32.toInt k_419
                have k_421 : σ_407 ba 1 = 3 := (FR.at fσ_407 tba (by decide)).trans k_399
                have cq_422 := congrArg Int32.toInt k_421
                have cq_423 := congrArg Int32.toInt g_411
                have k_424 : σ_238 br 1 = (σ_45 br 1) := (FR.at fσ_238 tbr (by decide)).trans k_233
                have k_425 : σ_407 br 1 = (σ_45 br 1) := (FR.at fσ_407 tbr (by decide)).trans k_424
                have cq_426 := congrArg Int32.toInt k_425
                have k_427 : σ_407 ba 2 = 3 := (FR.at fσ_407 tba (by decide)).trans k_401
                have cq_428 := congrArg Int32.toInt k_427
                have cq_429 := congrArg Int32.toInt g_412
                have k_430 : σ_238 br 2 = (σ_45 br 2) := (FR.at fσ_238 tbr (by decide)).trans k_234
                have k_431 : σ_407 br 2 = (σ_45 br 2) := (FR.at fσ_407 tbr (by decide)).trans k_430
                have cq_432 := congrArg Int32.toInt k_431
                have k_433 : σ_407 ba 3 = 3 := (FR.at fσ_407 tba (by decide)).trans k_403
                have cq_434 := congrArg Int32.toInt k_433
                have cq_435 := congrArg Int32.toInt g_413
                have k_436 : σ_238 br 3 = (σ_45 br 3) := (FR.at fσ_238 tbr (by decide)).trans k_235
                have k_437 : σ_407 br 3 = (σ_45 br 3) := (FR.at fσ_407 tbr (by decide)).trans k_436
                have cq_438 := congrArg Int32.toInt k_437
                have k_439 : σ_407 ba 4 = 3 := (FR.at fσ_407 tba (by decide)).trans k_405
                have cq_440 := congrArg Int32.toInt k_439
                have cq_441 := congrArg Int32.toInt g_414
                have k_442 : σ_238 br 4 = (σ_45 br 4) := (FR.at fσ_238 tbr (by decide)).trans k_236
                have k_443 : σ_407 br 4 = (σ_45 br 4) := (FR.at fσ_407 tbr (by decide)).trans k_442
                have cq_444 := congrArg Int32.toInt k_443
                refine t_ci (va_runV (As := []) (rest := []) ⟨hx, hb, hml, hown, hts⟩ (cz_X12_hasNextRow l D cA L T r hG hLA.1 σ_407 ρ_408 hB.2.1 _ h0 mh0 th0 br hbr mbr tbr bm hbm mbm tbm (by rw [k_419, g_410]; omega) (by rw [k_425, g_411]; omega) (by rw [k_431, g_412]; omega) (by rw [k_437, g_413]; omega) (by rw [k_443, g_414]; omega)) (cV hts mv_X12_hasNextRow mw_8_34 rfl rfl ⟨Nat.le_of_ble_eq_true rfl, Nat.le_of_ble_eq_true rfl⟩) (pV hB.1 hK hN mh0 th0 (show shp cA 12 _ _ _ = .inr (12, Fs12 _ _ _) from rfl) rfl) rfl rfl hl.1 rfl (lv_room (Nat.le_of_ble_eq_true rfl)) dX12_findsBag_146 ⟨Nat.le_of_ble_eq_true rfl, Nat.le_of_ble_eq_true rfl⟩) hLA hA hB hS (by decide) (fun x_447 σ_445 ρ_446 H locs hB fσ_445 pσ_445 hS => ?_)
                obtain ⟨g_448, g_449, g_450, g_451, g_452, g_453, g_454, g_455⟩ := pσ_445
                have w_456 : 0 ≤ (σ_445 br 0).toInt ∧ (σ_445 br 0).toInt ≤ 9 := by have z := hB.2.1 br mbr 0; rw [tbr] at z; exact z
                have w_457 : 0 ≤ (σ_445 br 1).toInt ∧ (σ_445 br 1).toInt ≤ 9 := by have z := hB.2.1 br mbr 1; rw [tbr] at z; exact z
                have w_458 : 0 ≤ (σ_445 br 2).toInt ∧ (σ_445 br 2).toInt ≤ 9 := by have z := hB.2.1 br mbr 2; rw [tbr] at z; exact z
                have w_459 : 0 ≤ (σ_445 br 3).toInt ∧ (σ_445 br 3).toInt ≤ 9 := by have z := hB.2.1 br mbr 3; rw [tbr] at z; exact z
                have w_460 : 0 ≤ (σ_445 br 4).toInt ∧ (σ_445 br 4).toInt ≤ 9 := by have z := hB.2.1 br mbr 4; rw [tbr] at z; exact z
                obtain ⟨lx_447, ux_447⟩ := g_448
                refine lv_istore_n (lv' := [(2, .int x_447), (4, .int x_240), (3, .int x_96), (0, .ref h0), (1, .int p1)]) hx hb dX12_findsBag_149 rfl hl (by decide) rfl (fun ls hl => ?_)
                refine lv_goto (tgt := 34) hx hb dX12_findsBag_150 (by decide) ?_
                have k_461 : σ_445 ba 0 = 3 := (FR.at fσ_445 tba (by decide)).trans k_415
                have k_462 : σ_445 ba 1 = 3 := (FR.at fσ_445 tba (by decide)).trans k_421
                have k_463 : σ_445 ba 2 = 3 := (FR.at fσ_445 tba (by decide)).trans k_427
                have k_464 : σ_445 ba 3 = 3 := (FR.at fσ_445 tba (by decide)).trans k_433
                have k_465 : σ_445 ba 4 = 3 := (FR.at fσ_445 tba (by decide)).trans k_439
                exact ih_47 ⟨x_447, x_96, σ_445, ρ_446⟩ _ _ _ ⟨(by omega), (by omega), k_461, k_462, k_463, k_464, k_465, (by rw [k_461]; (first | omega | decide)), (by rw [k_462]; (first | omega | decide)), (by rw [k_463]; (first | omega | decide)), (by rw [k_464]; (first | omega | decide)), (by rw [k_465]; (first | omega | decide)), hB, hS, lv_sub hl [2, 0, 3, 4] rfl⟩ (by show (2 * (99999 - ((σ_445 br 0).toInt * 10000 + (σ_445 br 1).toInt * 1000 + (σ_445 br 2).toInt * 100 + (σ_445 br 3).toInt * 10 + (σ_445 br 4).toInt * 1)) + (x_447 : Int32).toInt).toNat < (2 * (99999 - ((σ_45 br 0).toInt * 10000 + (σ_45 br 1).toInt * 1000 + (σ_45 br 2).toInt * 100 + (σ_45 br 3).toInt * 10 + (σ_45 br 4).toInt * 1)) + (i_43 : Int32).toInt).toNat; omega)
              · skip
                have uc_396 := j_nle c_396
                refine lv_aload_n hx hb dX12_findsBag_134 rfl (lv_at hl 3 rfl) ?_
                refine lv_iload hx hb dX12_findsBag_135 (lv_at hl 0 rfl) ?_
                refine lv_iload_n hx hb dX12_findsBag_137 rfl (lv_at hl 1 rfl) ?_
                refine t_cv (va_runV (As := [.int x_240, .int x_96]) (rest := []) ⟨hx, hb, hml, hown, hts⟩ (cy_X12_keepsRow l D cA L T r hG hLA.1 σ_238 ρ_239 hB.2.1 _ h0 mh0 th0 x_240 x_96) (cV hts mv_X12_keepsRow mw_8_26 rfl rfl ⟨Nat.le_of_ble_eq_true rfl, Nat.le_of_ble_eq_true rfl⟩) (pV hB.1 hK hN mh0 th0 (show shp cA 12 _ _ _ = .inr (12, Fs12 _ _ _) from rfl) rfl) rfl rfl hl.1 rfl (lv_room (Nat.le_of_ble_eq_true rfl)) dX12_findsBag_138 ⟨Nat.le_of_ble_eq_true rfl, Nat.le_of_ble_eq_true rfl⟩) hLA hA hB hS (by decide) (fun σ_466 ρ_467 H locs hB fσ_466 pσ_466 hS => ?_)
                refine lv_aload_n hx hb dX12_findsBag_141 rfl (lv_at hl 3 rfl) ?_
                have k_469 : σ_238 ba 0 = 3 := (FR.at fσ_238 tba (by decide)).trans k_227
                have k_470 : σ_466 ba 0 = 3 := (FR.at fσ_466 tba (by decide)).trans k_469
                have cq_471 : (σ_466 ba 0).toInt = 3 := by rw [k_470]; decide
                have k_472 : σ_238 ba 1 = 3 := (FR.at fσ_238 tba (by decide)).trans k_228
                have k_473 : σ_466 ba 1 = 3 := (FR.at fσ_466 tba (by decide)).trans k_472
                have cq_474 : (σ_466 ba 1).toInt = 3 := by rw [k_473]; decide
                have k_475 : σ_238 ba 2 = 3 := (FR.at fσ_238 tba (by decide)).trans k_229
                have k_476 : σ_466 ba 2 = 3 := (FR.at fσ_466 tba (by decide)).trans k_475
                have cq_477 : (σ_466 ba 2).toInt = 3 := by rw [k_476]; decide
                have k_478 : σ_238 ba 3 = 3 := (FR.at fσ_238 tba (by decide)).trans k_230
                have k_479 : σ_466 ba 3 = 3 := (FR.at fσ_466 tba (by decide)).trans k_478
                have cq_480 : (σ_466 ba 3).toInt = 3 := by rw [k_479]; decide
                have k_481 : σ_238 ba 4 = 3 := (FR.at fσ_238 tba (by decide)).trans k_231
                have k_482 : σ_466 ba 4 = 3 := (FR.at fσ_466 tba (by decide)).trans k_481
                have cq_483 : (σ_466 ba 4).toInt = 3 := by rw [k_482]; decide
                refine t_cv (va_runV (As := []) (rest := []) ⟨hx, hb, hml, hown, hts⟩ (cz_X12_mostAgain l D cA L T r hG hLA.1 σ_466 ρ_467 hB.2.1 _ h0 mh0 th0 ba hba mba tba bm hbm mbm tbm) (cV hts mv_X12_mostAgain mw_8_30 rfl rfl ⟨Nat.le_of_ble_eq_true rfl, Nat.le_of_ble_eq_true rfl⟩) (pV hB.1 hK hN mh0 th0 (show shp cA 12 _ _ _ = .inr (12, Fs12 _ _ _) from rfl) rfl) rfl rfl hl.1 rfl (lv_room (Nat.le_of_ble_eq_true rfl)) dX12_findsBag_142 ⟨Nat.le_of_ble_eq_true rfl, Nat.le_of_ble_eq_true rfl⟩) hLA hA hB hS (by decide) (fun σ_484 ρ_485 H locs hB fσ_484 pσ_484 hS => ?_)
                obtain ⟨g_487, g_488, g_489, g_490, g_491⟩ := pσ_484
                refine lv_aload_n hx hb dX12_findsBag_145 rfl (lv_at hl 3 rfl) ?_
                have k_492 : σ_484 ba 0 = 3 := (FR.at fσ_484 tba (by decide)).trans k_470
                have cq_493 := congrArg Int32.toInt k_492
                have cq_494 := congrArg Int32.toInt g_487
                have k_495 : σ_238 br 0 = (σ_45 br 0) := (FR.at fσ_238 tbr (by decide)).trans k_232
                have k_496 : σ_466 br 0 = (σ_45 br 0) := (FR.at fσ_466 tbr (by decide)).trans k_495
                have k_497 : σ_484 br 0 = (σ_45 br 0) := (FR.at fσ_484 tbr (by decide)).trans k_496
                have cq_498 := congrArg Int32.toInt k_497
                have k_499 : σ_484 ba 1 = 3 := (FR.at fσ_484 tba (by decide)).trans k_473
                have cq_500 := congrArg Int32.toInt k_499
                have cq_501 := congrArg Int32.toInt g_488
                have k_502 : σ_238 br 1 = (σ_45 br 1) := (FR.at fσ_238 tbr (by decide)).trans k_233
                have k_503 : σ_466 br 1 = (σ_45 br 1) := (FR.at fσ_466 tbr (by decide)).trans k_502
                have k_504 : σ_484 br 1 = (σ_45 br 1) := (FR.at fσ_484 tbr (by decide)).trans k_503
                have cq_505 := congrArg Int32.toInt k_504
                have k_506 : σ_484 ba 2 = 3 := (FR.at fσ_484 tba (by decide)).trans k_476
                have cq_507 := congrArg Int32.toInt k_506
                have cq_508 := congrArg Int32.toInt g_489
                have k_509 : σ_238 br 2 = (σ_45 br 2) := (FR.at fσ_238 tbr (by decide)).trans k_234
                have k_510 : σ_466 br 2 = (σ_45 br 2) := (FR.at fσ_466 tbr (by decide)).trans k_509
                have k_511 : σ_484 br 2 = (σ_45 br 2) := (FR.at fσ_484 tbr (by decide)).trans k_510
                have cq_512 := congrArg Int32.toInt k_511
                have k_513 : σ_484 ba 3 = 3 := (FR.at fσ_484 tba (by decide)).trans k_479
                have cq_514 := congrArg Int32.toInt k_513
                have cq_515 := congrArg Int32.toInt g_490
                have k_516 : σ_238 br 3 = (σ_45 br 3) := (FR.at fσ_238 tbr (by decide)).trans k_235
                have k_517 : σ_466 br 3 = (σ_45 br 3) := (FR.at fσ_466 tbr (by decide)).trans k_516
                have k_518 : σ_484 br 3 = (σ_45 br 3) := (FR.at fσ_484 tbr (by decide)).trans k_517
                have cq_519 := congrArg Int32.toInt k_518
                have k_520 : σ_484 ba 4 = 3 := (FR.at fσ_484 tba (by decide)).trans k_482
                have cq_521 := congrArg Int32.toInt k_520
                have cq_522 := congrArg Int32.toInt g_491
                have k_523 : σ_238 br 4 = (σ_45 br 4) := (FR.at fσ_238 tbr (by decide)).trans k_236
                have k_524 : σ_466 br 4 = (σ_45 br 4) := (FR.at fσ_466 tbr (by decide)).trans k_523
                have k_525 : σ_484 br 4 = (σ_45 br 4) := (FR.at fσ_484 tbr (by decide)).trans k_524
                have cq_526 := congrArg Int32.toInt k_525
                refine t_ci (va_runV (As := []) (rest := []) ⟨hx, hb, hml, hown, hts⟩ (cz_X12_hasNextRow l D cA L T r hG hLA.1 σ_484 ρ_485 hB.2.1 _ h0 mh0 th0 br hbr mbr tbr bm hbm mbm tbm (by rw [k_497, g_487]; omega) (by rw [k_504, g_488]; omega) (by rw [k_511, g_489]; omega) (by rw [k_518, g_490]; omega) (by rw [k_525, g_491]; omega)) (cV hts mv_X12_hasNextRow mw_8_34 rfl rfl ⟨Nat.le_of_ble_eq_true rfl, Nat.le_of_ble_eq_true rfl⟩) (pV hB.1 hK hN mh0 th0 (show shp cA 12 _ _ _ = .inr (12, Fs12 _ _ _) from rfl) rfl) rfl rfl hl.1 rfl (lv_room (Nat.le_of_ble_eq_true rfl)) dX12_findsBag_146 ⟨Nat.le_of_ble_eq_true rfl, Nat.le_of_ble_eq_true rfl⟩) hLA hA hB hS (by decide) (fun x_529 σ_527 ρ_528 H locs hB fσ_527 pσ_527 hS => ?_)
                obtain ⟨g_530, g_531, g_532, g_533, g_534, g_535, g_536, g_537⟩ := pσ_527
                have w_538 : 0 ≤ (σ_527 br 0).toInt ∧ (σ_527 br 0).toInt ≤ 9 := by have z := hB.2.1 br mbr 0; rw [tbr] at z; exact z
                have w_539 : 0 ≤ (σ_527 br 1).toInt ∧ (σ_527 br 1).toInt ≤ 9 := by have z := hB.2.1 br mbr 1; rw [tbr] at z; exact z
                have w_540 : 0 ≤ (σ_527 br 2).toInt ∧ (σ_527 br 2).toInt ≤ 9 := by have z := hB.2.1 br mbr 2; rw [tbr] at z; exact z
                have w_541 : 0 ≤ (σ_527 br 3).toInt ∧ (σ_527 br 3).toInt ≤ 9 := by have z := hB.2.1 br mbr 3; rw [tbr] at z; exact z
                have w_542 : 0 ≤ (σ_527 br 4).toInt ∧ (σ_527 br 4).toInt ≤ 9 := by have z := hB.2.1 br mbr 4; rw [tbr] at z; exact z
                obtain ⟨lx_529, ux_529⟩ := g_530
                refine lv_istore_n (lv' := [(2, .int x_529), (4, .int x_240), (3, .int x_96), (0, .ref h0), (1, .int p1)]) hx hb dX12_findsBag_149 rfl hl (by decide) rfl (fun ls hl => ?_)
                refine lv_goto (tgt := 34) hx hb dX12_findsBag_150 (by decide) ?_
                have k_543 : σ_527 ba 0 = 3 := (FR.at fσ_527 tba (by decide)).trans k_492
                have k_544 : σ_527 ba 1 = 3 := (FR.at fσ_527 tba (by decide)).trans k_499
                have k_545 : σ_527 ba 2 = 3 := (FR.at fσ_527 tba (by decide)).trans k_506
                have k_546 : σ_527 ba 3 = 3 := (FR.at fσ_527 tba (by decide)).trans k_513
                have k_547 : σ_527 ba 4 = 3 := (FR.at fσ_527 tba (by decide)).trans k_520
                exact ih_47 ⟨x_529, x_96, σ_527, ρ_528⟩ _ _ _ ⟨(by omega), (by omega), k_543, k_544, k_545, k_546, k_547, (by rw [k_543]; (first | omega | decide)), (by rw [k_544]; (first | omega | decide)), (by rw [k_545]; (first | omega | decide)), (by rw [k_546]; (first | omega | decide)), (by rw [k_547]; (first | omega | decide)), hB, hS, lv_sub hl [2, 0, 3, 4] rfl⟩ (by show (2 * (99999 - ((σ_527 br 0).toInt * 10000 + (σ_527 br 1).toInt * 1000 + (σ_527 br 2).toInt * 100 + (σ_527 br 3).toInt * 10 + (σ_527 br 4).toInt * 1)) + (x_529 : Int32).toInt).toNat < (2 * (99999 - ((σ_45 br 0).toInt * 10000 + (σ_45 br 1).toInt * 1000 + (σ_45 br 2).toInt * 100 + (σ_45 br 3).toInt * 10 + (σ_45 br 4).toInt * 1)) + (i_43 : Int32).toInt).toNat; omega)
        · skip
          have uc_237 := i_nge (n := 5) (by decide) c_237
          refine lv_aload_n hx hb dX12_findsBag_71 rfl (lv_at hl 3 rfl) ?_
          refine t_gr hx hb hts hown hK hG hB mh0 th0 fq_12_27 rfl mw_6_3 dX12_findsBag_72 (fun b_548 hb_548 mb_548 tb_548 => ?_)
          refine lv_iload hx hb dX12_findsBag_75 (lv_at hl 0 rfl) ?_
          refine lv_aload_n hx hb dX12_findsBag_77 rfl (lv_at hl 3 rfl) ?_
          refine lv_iload_n hx hb dX12_findsBag_78 rfl (lv_at hl 4 rfl) ?_
          refine lv_iload hx hb dX12_findsBag_79 (lv_at hl 0 rfl) ?_
          refine t_ci (va_runV (As := [.int p1, .int i_223]) (rest := [.int i_223, .ref b_548]) ⟨hx, hb, hml, hown, hts⟩ (cy_X12_hasOf l D cA L T r hG hLA.1 σ_224 ρ_225 hB.2.1 _ h0 mh0 th0 p1 i_223 (by first | omega | decide) (by first | omega | decide) (by first | omega | decide) (by first | omega | decide)) (cV hts mv_X12_hasOf mw_7_77 rfl rfl ⟨Nat.le_of_ble_eq_true rfl, Nat.le_of_ble_eq_true rfl⟩) (pV hB.1 hK hN mh0 th0 (show shp cA 12 _ _ _ = .inr (12, Fs12 _ _ _) from rfl) rfl) rfl rfl hl.1 rfl (lv_room (Nat.le_of_ble_eq_true rfl)) dX12_findsBag_81 ⟨Nat.le_of_ble_eq_true rfl, Nat.le_of_ble_eq_true rfl⟩) hLA hA hB hS (by decide) (fun x_551 σ_549 ρ_550 H locs hB fσ_549 pσ_549 hS => ?_)
          have qσ_549 := FR.nil fσ_549
          subst qσ_549
          refine lv_aload_n hx hb dX12_findsBag_84 rfl (lv_at hl 3 rfl) ?_
          refine t_gk hx hb hts hown hK hB mh0 th0 fq_12_28 hbr mw_6_4 dX12_findsBag_85 ?_
          refine lv_iload hx hb dX12_findsBag_88 (lv_at hl 0 rfl) ?_
          refine t_ai hx hb hK hB mbr tbr ai_75 (fun _ => rfl) (i_in (by omega) (by omega)) dX12_findsBag_90 (fun x_552 ex_552 lx_552 ux_552 => ?_)
          have cx_552 := congrArg Int32.toInt ex_552
          refine lv_iadd hx hb dX12_findsBag_91 ?_
          refine lv_topi (fun x_553 ex_553 => ?_)
          try have vx_553 := b_add (rfl : x_551.toInt = _) (rfl : x_552.toInt = _) ex_553 (by omega) (by omega)
          refine t_si hx hb hK hLA hB hS mb_548 tb_548 ai_74 (i_in (by omega) (by omega)) (i_lo _) (i_hi _) (Or.inr (by decide)) dX12_findsBag_92 (fun H locs σ_554 eσ_554 hB hS => ?_)
          have k_555 : σ_554 b_548 i_223.toNatClampNeg = x_553 := by rw [eσ_554]; exact up2_same _ _ _ _
          obtain ⟨x_556, ex_556⟩ : ∃ y : Int32, y = i_223 + 1 := ⟨_, rfl⟩
          have vx_556 := b_add (rfl : i_223.toInt = _) (by decide : (1 : Int32).toInt = 1) ex_556 (by omega) (by omega)
          refine lv_iinc (v := x_556) (lv' := [(4, .int x_556), (3, .int x_96), (2, .int i_43), (0, .ref h0), (1, .int p1)]) hx hb dX12_findsBag_93 hl (k := 0) rfl (by rw [ex_556]; rfl) (by decide) rfl (fun ls hl => ?_)
          refine lv_goto (tgt := 65) hx hb dX12_findsBag_96 (by decide) ?_
          have k_557 : σ_554 ba 0 = 3 := by rw [eσ_554, up2_nea _ _ (tg_ne tba tb_548 (by decide))]; exact k_227
          have k_558 : σ_554 ba 1 = 3 := by rw [eσ_554, up2_nea _ _ (tg_ne tba tb_548 (by decide))]; exact k_228
          have k_559 : σ_554 ba 2 = 3 := by rw [eσ_554, up2_nea _ _ (tg_ne tba tb_548 (by decide))]; exact k_229
          have k_560 : σ_554 ba 3 = 3 := by rw [eσ_554, up2_nea _ _ (tg_ne tba tb_548 (by decide))]; exact k_230
          have k_561 : σ_554 ba 4 = 3 := by rw [eσ_554, up2_nea _ _ (tg_ne tba tb_548 (by decide))]; exact k_231
          have k_562 : σ_554 br 0 = (σ_45 br 0) := by rw [eσ_554, up2_nea _ _ (tg_ne tbr tb_548 (by decide))]; exact k_232
          have k_563 : σ_554 br 1 = (σ_45 br 1) := by rw [eσ_554, up2_nea _ _ (tg_ne tbr tb_548 (by decide))]; exact k_233
          have k_564 : σ_554 br 2 = (σ_45 br 2) := by rw [eσ_554, up2_nea _ _ (tg_ne tbr tb_548 (by decide))]; exact k_234
          have k_565 : σ_554 br 3 = (σ_45 br 3) := by rw [eσ_554, up2_nea _ _ (tg_ne tbr tb_548 (by decide))]; exact k_235
          have k_566 : σ_554 br 4 = (σ_45 br 4) := by rw [eσ_554, up2_nea _ _ (tg_ne tbr tb_548 (by decide))]; exact k_236
          exact ih_226 ⟨x_556, σ_554, ρ_550⟩ _ _ _ ⟨(by omega), (by omega), k_557, k_558, k_559, k_560, k_561, k_562, k_563, k_564, k_565, k_566, hB, hS, lv_sub hl [0, 1, 2, 3, 4] rfl⟩ (by show (5 - x_556.toInt).toNat < (5 - i_223.toInt).toNat; omega)
theorem mw_8_16 : (.instanceMethod yX12_findsBag : Cond) ∈ wsA := wsA_t (List.mem_append_right _ (List.mem_append_right _ (List.mem_append_right _ (List.mem_append_right _ (List.mem_append_right _ (List.mem_append_right _ (List.mem_append_right _ (List.mem_of_getElem? (l := tables_1_8) (i := 16) rfl)))))))) rfl
theorem mp_7_10 : (.selects RX12 yX12_findsBag yX12_findsBag : Cond) ∈ wsA := wsA_p (q := (yX12_findsBag, 44)) (List.mem_append_right _ (List.mem_append_right _ (List.mem_append_right _ (List.mem_append_right _ (List.mem_append_right _ (List.mem_append_right _ (List.mem_append_left _ (List.mem_of_getElem? (l := lw_privs_7) (i := 10) rfl))))))))
theorem mw_8_17 : (.code yX12_findsBag cX12_findsBag 5 none : Cond) ∈ wsA := wsA_t (List.mem_append_right _ (List.mem_append_right _ (List.mem_append_right _ (List.mem_append_right _ (List.mem_append_right _ (List.mem_append_right _ (List.mem_append_right _ (List.mem_of_getElem? (l := tables_1_8) (i := 17) rfl)))))))) rfl
theorem mw_8_14 : (.methodLink RX12 413 yX12_findsBag : Cond) ∈ wsA := wsA_t (List.mem_append_right _ (List.mem_append_right _ (List.mem_append_right _ (List.mem_append_right _ (List.mem_append_right _ (List.mem_append_right _ (List.mem_append_right _ (List.mem_of_getElem? (l := tables_1_8) (i := 14) rfl)))))))) rfl
theorem dX12_bag_0 : decode cX12_bag 0 = .ok (.aload_n 0, 1) := by decide +kernel
theorem dX12_bag_1 : decode cX12_bag 1 = .ok (.iload_n 1, 1) := by decide +kernel
theorem dX12_bag_2 : decode cX12_bag 2 = .ok (.invokevirtual 319, 3) := by decide +kernel
theorem dX12_bag_5 : decode cX12_bag 5 = .ok (.ifCond .eq 31, 3) := by decide +kernel
theorem dX12_bag_36 : decode cX12_bag 36 = .ok (.bipush (-3), 2) := by decide +kernel
theorem dX12_bag_38 : decode cX12_bag 38 = .ok (.ireturn, 1) := by decide +kernel
theorem dX12_bag_8 : decode cX12_bag 8 = .ok (.aload_n 0, 1) := by decide +kernel
theorem dX12_bag_9 : decode cX12_bag 9 = .ok (.iload_n 1, 1) := by decide +kernel
theorem dX12_bag_10 : decode cX12_bag 10 = .ok (.iconst 0, 1) := by decide +kernel
theorem dX12_bag_11 : decode cX12_bag 11 = .ok (.invokevirtual 324, 3) := by decide +kernel
theorem dX12_bag_14 : decode cX12_bag 14 = .ok (.ifCond .gt 22, 3) := by decide +kernel
theorem dX12_bag_17 : decode cX12_bag 17 = .ok (.iload_n 2, 1) := by decide +kernel
theorem dX12_bag_18 : decode cX12_bag 18 = .ok (.bipush (-2), 2) := by decide +kernel
theorem dX12_bag_20 : decode cX12_bag 20 = .ok (.if_icmp .eq 19, 3) := by decide +kernel
theorem dX12_bag_39 : decode cX12_bag 39 = .ok (.aload_n 0, 1) := by decide +kernel
theorem dX12_bag_40 : decode cX12_bag 40 = .ok (.iload_n 1, 1) := by decide +kernel
theorem dX12_bag_41 : decode cX12_bag 41 = .ok (.invokevirtual 413, 3) := by decide +kernel
theorem dX12_bag_44 : decode cX12_bag 44 = .ok (.iload_n 2, 1) := by decide +kernel
theorem dX12_bag_45 : decode cX12_bag 45 = .ok (.iconst (-1), 1) := by decide +kernel
theorem dX12_bag_46 : decode cX12_bag 46 = .ok (.if_icmp .ne 10, 3) := by decide +kernel
theorem dX12_bag_56 : decode cX12_bag 56 = .ok (.iload_n 2, 1) := by decide +kernel
theorem dX12_bag_57 : decode cX12_bag 57 = .ok (.bipush (-2), 2) := by decide +kernel
theorem dX12_bag_59 : decode cX12_bag 59 = .ok (.if_icmp .ne 10, 3) := by decide +kernel
theorem dX12_bag_62 : decode cX12_bag 62 = .ok (.aload_n 0, 1) := by decide +kernel
theorem dX12_bag_63 : decode cX12_bag 63 = .ok (.getfield 395, 3) := by decide +kernel
theorem dX12_bag_66 : decode cX12_bag 66 = .ok (.goto 9, 3) := by decide +kernel
theorem dX12_bag_75 : decode cX12_bag 75 = .ok (.ireturn, 1) := by decide +kernel
theorem dX12_bag_23 : decode cX12_bag 23 = .ok (.iload_n 2, 1) := by decide +kernel
theorem dX12_bag_24 : decode cX12_bag 24 = .ok (.iconst (-1), 1) := by decide +kernel
theorem dX12_bag_25 : decode cX12_bag 25 = .ok (.if_icmp .eq 14, 3) := by decide +kernel
theorem dX12_bag_49 : decode cX12_bag 49 = .ok (.aload_n 0, 1) := by decide +kernel
theorem dX12_bag_50 : decode cX12_bag 50 = .ok (.getfield 392, 3) := by decide +kernel
theorem dX12_bag_53 : decode cX12_bag 53 = .ok (.goto 22, 3) := by decide +kernel
theorem dX12_bag_28 : decode cX12_bag 28 = .ok (.aload_n 0, 1) := by decide +kernel
theorem dX12_bag_29 : decode cX12_bag 29 = .ok (.iload_n 2, 1) := by decide +kernel
theorem dX12_bag_30 : decode cX12_bag 30 = .ok (.invokevirtual 335, 3) := by decide +kernel
theorem dX12_bag_33 : decode cX12_bag 33 = .ok (.ifCond .ne 6, 3) := by decide +kernel
theorem dX12_bag_69 : decode cX12_bag 69 = .ok (.aload_n 0, 1) := by decide +kernel
theorem dX12_bag_70 : decode cX12_bag 70 = .ok (.getfield 61, 3) := by decide +kernel
theorem dX12_bag_73 : decode cX12_bag 73 = .ok (.iload_n 2, 1) := by decide +kernel
theorem dX12_bag_74 : decode cX12_bag 74 = .ok (.iaload, 1) := by decide +kernel
theorem mv_X12_findsBag : MV RX12 yX12_findsBag cX12_findsBag 5 none 1 := ⟨mw_8_16, mp_7_10, mw_1_13, mw_8_17, ⟨rfl, by decide, by decide, by decide +kernel⟩⟩
set_option maxHeartbeats 4000000 in
set_option maxRecDepth 100000 in
theorem cy_X12_bag (l : Launch) (D : va_G) (cA : Nat → ClassId) (L : List Nat) (T : Nat → Nat) (r : Rg) (hG : GR L T r) (hL : L.Nodup) (σ : Sg) (ρ : Lg) (hW : WT L ry T σ) (sz : Nat) (h0 : Nat) (mh0 : h0 ∈ L) (th0 : T h0 = 12) (p1 : Int32) (p2 : Int32) : Met l yX12_bag (.code yX12_bag cX12_bag 3 (some .int) :: wsA) ({ frames := 4, cells := 0, slots := 0, locals := 91 }) (PR D cA L T r σ ρ sz [.ref h0, .int p1, .int p2]) (QI D cA L T r ry [(12, 30), (12, 31), (73, 1000), (74, 1000), (75, 1000), (76, 1000), (77, 1000)] σ sz (fun x σ1 => True)) 0 0 (dm L sz) := by
  refine Met.ofW (cc := cX12_bag) (maxL := 3) (ret := (some .int)) (by decide) rfl ?_
  intro p e s m args below meth c s₁ B hml hv
  obtain ⟨rfl, hsz, hP, hK, hN⟩ := hv
  have hx := B.exec
  have hb := B.bytes
  have hr := B.returns
  have hts : ∀ w ∈ wsA, w.before _ s = true := fun w h => atoms_spec (ws := .code yX12_bag cX12_bag 3 (some .int) :: wsA) B.pre w (List.mem_cons_of_mem _ h)
  have hown : s.vm.findClass RX12 = some m.cls := findClass_of_methodNamed B.named
  subst hsz
  have hLA : LA (dm L s.heap.size) L := ⟨hL, fun a h => Or.inl h⟩
  have hA : ∀ q : Nat, s.heap.size ≤ q → dm L s.heap.size q := fun q h => Or.inr h
  have hS : va_S (dm L s.heap.size) s.heap s.heap [] := va_S.rf
  have hB : TS D cA L T r ry [(12, 30), (12, 31), (73, 1000), (74, 1000), (75, 1000), (76, 1000), (77, 1000)] σ σ ρ s.heap := ⟨hP, hW, FR.rf⟩
  have hl := lv_entry ([.ref h0, .int p1, .int p2]) (n := 3) (Nat.le_of_ble_eq_true rfl)
  rw [lg_entry_eq]
  generalize (lg_sl ([.ref h0, .int p1, .int p2]) ++ List.replicate (3 - (lg_sl ([.ref h0, .int p1, .int p2])).length) Slot.unset).toArray = ls at hl ⊢
  have hl : lv_has ls 3 [(0, .ref h0), (1, .int p1), (2, .int p2)] := hl
  refine lv_aload_n hx hb dX12_bag_0 rfl (lv_at hl 0 rfl) ?_
  refine lv_iload_n hx hb dX12_bag_1 rfl (lv_at hl 1 rfl) ?_
  refine t_ci (va_runV (As := [.int p1]) (rest := []) ⟨hx, hb, hml, hown, hts⟩ (cy_X12_isPilgrim l D cA L T r hG hLA.1 σ ρ hB.2.1 _ h0 mh0 th0 p1) (cV hts mv_X12_isPilgrim mw_7_64 rfl rfl ⟨Nat.le_of_ble_eq_true rfl, Nat.le_of_ble_eq_true rfl⟩) (pV hB.1 hK hN mh0 th0 (show shp cA 12 _ _ _ = .inr (12, Fs12 _ _ _) from rfl) rfl) rfl rfl hl.1 rfl (lv_room (Nat.le_of_ble_eq_true rfl)) dX12_bag_2 ⟨Nat.le_of_ble_eq_true rfl, Nat.le_of_ble_eq_true rfl⟩) hLA hA hB hS (by decide) (fun x_3 σ_1 ρ_2 H locs hB fσ_1 pσ_1 hS => ?_)
  have qσ_1 := FR.nil fσ_1
  subst qσ_1
  obtain ⟨ox_3, ix_3⟩ := pσ_1
  refine lv_if_eq (tgt := 36) hx hb dX12_bag_5 (by decide) (fun c_4 => ?_) (fun c_4 => ?_)
  · skip
    have uc_4 := i_eq (n := 0) (by decide) c_4
    refine lv_bipush (v := (-3)) hx hb dX12_bag_36 (by decide) ?_
    exact W.iret (v := (-3)) hx hb hr (fun t ht hW => ⟨⟨(-3), (σ, ρ_2), rfl, ⟨hB.2.1, hB.2.2, trivial⟩, (show TP D cA L T r σ ρ_2 t.heap from by rw [ht]; exact hB.1)⟩, hS.F ht⟩) hS.2.2 dX12_bag_38
  · skip
    have uc_4 := i_ne (n := 0) (by decide) c_4
    refine lv_aload_n hx hb dX12_bag_8 rfl (lv_at hl 0 rfl) ?_
    refine lv_iload_n hx hb dX12_bag_9 rfl (lv_at hl 1 rfl) ?_
    refine lv_iconst (v := 0) hx hb dX12_bag_10 (by decide) ?_
    obtain ⟨b_5, hb_5, mb_5, tb_5⟩ := hG h0 mh0 20 _ (by rw [th0]; rfl)
    refine t_ci (va_runV (As := [.int p1, .int 0]) (rest := []) ⟨hx, hb, hml, hown, hts⟩ (cy_X12_pilgrimOf_0x l D cA L T r hG hLA.1 σ ρ_2 hB.2.1 _ h0 mh0 th0 p1 b_5 hb_5 mb_5 tb_5 (by first | omega | decide) (by first | omega | decide)) (cV hts mv_X12_pilgrimOf mw_7_69 rfl rfl ⟨Nat.le_of_ble_eq_true rfl, Nat.le_of_ble_eq_true rfl⟩) (pV hB.1 hK hN mh0 th0 (show shp cA 12 _ _ _ = .inr (12, Fs12 _ _ _) from rfl) rfl) rfl rfl hl.1 rfl (lv_room (Nat.le_of_ble_eq_true rfl)) dX12_bag_11 ⟨Nat.le_of_ble_eq_true rfl, Nat.le_of_ble_eq_true rfl⟩) hLA hA hB hS (by decide) (fun x_8 σ_6 ρ_7 H locs hB fσ_6 pσ_6 hS => ?_)
    have qσ_6 := FR.nil fσ_6
    subst qσ_6
    obtain ⟨g_9, g_10⟩ := pσ_6
    have dx_8 := congrArg Int32.toInt g_10
    obtain ⟨lx_8, ux_8⟩ := g_9
    refine lv_if_gt (tgt := 36) hx hb dX12_bag_14 (by decide) (fun c_11 => ?_) (fun c_11 => ?_)
    · skip
      have uc_11 := i_gt (n := 0) (by decide) c_11
      refine lv_bipush (v := (-3)) hx hb dX12_bag_36 (by decide) ?_
      exact W.iret (v := (-3)) hx hb hr (fun t ht hW => ⟨⟨(-3), (σ, ρ_7), rfl, ⟨hB.2.1, hB.2.2, trivial⟩, (show TP D cA L T r σ ρ_7 t.heap from by rw [ht]; exact hB.1)⟩, hS.F ht⟩) hS.2.2 dX12_bag_38
    · skip
      have uc_11 := i_ngt (n := 0) (by decide) c_11
      refine lv_iload_n hx hb dX12_bag_17 rfl (lv_at hl 2 rfl) ?_
      refine lv_bipush (v := (-2)) hx hb dX12_bag_18 (by decide) ?_
      refine lv_icmp_eq (tgt := 39) hx hb dX12_bag_20 (by decide) (fun c_12 => ?_) (fun c_12 => ?_)
      · skip
        have uc_12 := i_eq (n := (-2)) (by decide) c_12
        refine lv_aload_n hx hb dX12_bag_39 rfl (lv_at hl 0 rfl) ?_
        refine lv_iload_n hx hb dX12_bag_40 rfl (lv_at hl 1 rfl) ?_
        obtain ⟨b_13, hb_13, mb_13, tb_13⟩ := hG h0 mh0 28 _ (by rw [th0]; rfl)
        obtain ⟨b_14, hb_14, mb_14, tb_14⟩ := hG h0 mh0 26 _ (by rw [th0]; rfl)
        obtain ⟨b_15, hb_15, mb_15, tb_15⟩ := hG h0 mh0 32 _ (by rw [th0]; rfl)
        refine t_cv (va_runV (As := [.int p1]) (rest := []) ⟨hx, hb, hml, hown, hts⟩ (cz_X12_findsBag l D cA L T r hG hLA.1 σ ρ_7 hB.2.1 _ h0 mh0 th0 p1 b_13 hb_13 mb_13 tb_13 b_14 hb_14 mb_14 tb_14 b_15 hb_15 mb_15 tb_15 (by first | omega | decide) (by first | omega | decide)) (cV hts mv_X12_findsBag mw_8_14 rfl rfl ⟨Nat.le_of_ble_eq_true rfl, Nat.le_of_ble_eq_true rfl⟩) (pV hB.1 hK hN mh0 th0 (show shp cA 12 _ _ _ = .inr (12, Fs12 _ _ _) from rfl) rfl) rfl rfl hl.1 rfl (lv_room (Nat.le_of_ble_eq_true rfl)) dX12_bag_41 ⟨Nat.le_of_ble_eq_true rfl, Nat.le_of_ble_eq_true rfl⟩) hLA hA hB hS (by decide) (fun σ_16 ρ_17 H locs hB fσ_16 pσ_16 hS => ?_)
        refine lv_iload_n hx hb dX12_bag_44 rfl (lv_at hl 2 rfl) ?_
        refine lv_iconst (v := (-1)) hx hb dX12_bag_45 (by decide) ?_
        refine lv_icmp_ne (tgt := 56) hx hb dX12_bag_46 (by decide) (fun c_19 => ?_) (fun c_19 => ?_)
        · skip
          have uc_19 := i_ne (n := (-1)) (by decide) c_19
          refine lv_iload_n hx hb dX12_bag_56 rfl (lv_at hl 2 rfl) ?_
          refine lv_bipush (v := (-2)) hx hb dX12_bag_57 (by decide) ?_
          refine lv_icmp_ne (tgt := 69) hx hb dX12_bag_59 (by decide) (fun c_20 => ?_) (fun c_20 => ?_)
          · skip
            have uc_20 := i_ne (n := (-2)) (by decide) c_20
            exfalso; omega
          · skip
            have uc_20 := i_eq (n := (-2)) (by decide) c_20
            refine lv_aload_n hx hb dX12_bag_62 rfl (lv_at hl 0 rfl) ?_
            refine t_gi hx hb hts hown hK hB mh0 th0 fi_12_31 rfl mw_6_7 dX12_bag_63 (fun x_21 ex_21 lx_21 ux_21 => ?_)
            have cx_21 := congrArg Int32.toInt ex_21
            refine lv_goto (tgt := 75) hx hb dX12_bag_66 (by decide) ?_
            exact W.iret (v := x_21) hx hb hr (fun t ht hW => ⟨⟨x_21, (σ_16, ρ_17), rfl, ⟨hB.2.1, hB.2.2, trivial⟩, (show TP D cA L T r σ_16 ρ_17 t.heap from by rw [ht]; exact hB.1)⟩, hS.F ht⟩) hS.2.2 dX12_bag_75
        · skip
          have uc_19 := i_eq (n := (-1)) (by decide) c_19
          exfalso; omega
      · skip
        have uc_12 := i_ne (n := (-2)) (by decide) c_12
        refine lv_iload_n hx hb dX12_bag_23 rfl (lv_at hl 2 rfl) ?_
        refine lv_iconst (v := (-1)) hx hb dX12_bag_24 (by decide) ?_
        refine lv_icmp_eq (tgt := 39) hx hb dX12_bag_25 (by decide) (fun c_22 => ?_) (fun c_22 => ?_)
        · skip
          have uc_22 := i_eq (n := (-1)) (by decide) c_22
          refine lv_aload_n hx hb dX12_bag_39 rfl (lv_at hl 0 rfl) ?_
          refine lv_iload_n hx hb dX12_bag_40 rfl (lv_at hl 1 rfl) ?_
          obtain ⟨b_23, hb_23, mb_23, tb_23⟩ := hG h0 mh0 28 _ (by rw [th0]; rfl)
          obtain ⟨b_24, hb_24, mb_24, tb_24⟩ := hG h0 mh0 26 _ (by rw [th0]; rfl)
          obtain ⟨b_25, hb_25, mb_25, tb_25⟩ := hG h0 mh0 32 _ (by rw [th0]; rfl)
          refine t_cv (va_runV (As := [.int p1]) (rest := []) ⟨hx, hb, hml, hown, hts⟩ (cz_X12_findsBag l D cA L T r hG hLA.1 σ ρ_7 hB.2.1 _ h0 mh0 th0 p1 b_23 hb_23 mb_23 tb_23 b_24 hb_24 mb_24 tb_24 b_25 hb_25 mb_25 tb_25 (by first | omega | decide) (by first | omega | decide)) (cV hts mv_X12_findsBag mw_8_14 rfl rfl ⟨Nat.le_of_ble_eq_true rfl, Nat.le_of_ble_eq_true rfl⟩) (pV hB.1 hK hN mh0 th0 (show shp cA 12 _ _ _ = .inr (12, Fs12 _ _ _) from rfl) rfl) rfl rfl hl.1 rfl (lv_room (Nat.le_of_ble_eq_true rfl)) dX12_bag_41 ⟨Nat.le_of_ble_eq_true rfl, Nat.le_of_ble_eq_true rfl⟩) hLA hA hB hS (by decide) (fun σ_26 ρ_27 H locs hB fσ_26 pσ_26 hS => ?_)
          refine lv_iload_n hx hb dX12_bag_44 rfl (lv_at hl 2 rfl) ?_
          refine lv_iconst (v := (-1)) hx hb dX12_bag_45 (by decide) ?_
          refine lv_icmp_ne (tgt := 56) hx hb dX12_bag_46 (by decide) (fun c_29 => ?_) (fun c_29 => ?_)
          · skip
            have uc_29 := i_ne (n := (-1)) (by decide) c_29
            exfalso; omega
          · skip
            have uc_29 := i_eq (n := (-1)) (by decide) c_29
            refine lv_aload_n hx hb dX12_bag_49 rfl (lv_at hl 0 rfl) ?_
            refine t_gi hx hb hts hown hK hB mh0 th0 fi_12_30 rfl mw_6_6 dX12_bag_50 (fun x_30 ex_30 lx_30 ux_30 => ?_)
            have cx_30 := congrArg Int32.toInt ex_30
            refine lv_goto (tgt := 75) hx hb dX12_bag_53 (by decide) ?_
            exact W.iret (v := x_30) hx hb hr (fun t ht hW => ⟨⟨x_30, (σ_26, ρ_27), rfl, ⟨hB.2.1, hB.2.2, trivial⟩, (show TP D cA L T r σ_26 ρ_27 t.heap from by rw [ht]; exact hB.1)⟩, hS.F ht⟩) hS.2.2 dX12_bag_75
        · skip
          have uc_22 := i_ne (n := (-1)) (by decide) c_22
          refine lv_aload_n hx hb dX12_bag_28 rfl (lv_at hl 0 rfl) ?_
          refine lv_iload_n hx hb dX12_bag_29 rfl (lv_at hl 2 rfl) ?_
          refine t_ci (va_runV (As := [.int p2]) (rest := []) ⟨hx, hb, hml, hown, hts⟩ (cy_X12_isSort l D cA L T r hG hLA.1 σ ρ_7 hB.2.1 _ h0 mh0 th0 p2) (cV hts mv_X12_isSort mw_7_110 rfl rfl ⟨Nat.le_of_ble_eq_true rfl, Nat.le_of_ble_eq_true rfl⟩) (pV hB.1 hK hN mh0 th0 (show shp cA 12 _ _ _ = .inr (12, Fs12 _ _ _) from rfl) rfl) rfl rfl hl.1 rfl (lv_room (Nat.le_of_ble_eq_true rfl)) dX12_bag_30 ⟨Nat.le_of_ble_eq_true rfl, Nat.le_of_ble_eq_true rfl⟩) hLA hA hB hS (by decide) (fun x_33 σ_31 ρ_32 H locs hB fσ_31 pσ_31 hS => ?_)
          have qσ_31 := FR.nil fσ_31
          subst qσ_31
          obtain ⟨ox_33, ix_33⟩ := pσ_31
          refine lv_if_ne (tgt := 39) hx hb dX12_bag_33 (by decide) (fun c_34 => ?_) (fun c_34 => ?_)
          · skip
            have uc_34 := i_ne (n := 0) (by decide) c_34
            refine lv_aload_n hx hb dX12_bag_39 rfl (lv_at hl 0 rfl) ?_
            refine lv_iload_n hx hb dX12_bag_40 rfl (lv_at hl 1 rfl) ?_
            obtain ⟨b_35, hb_35, mb_35, tb_35⟩ := hG h0 mh0 28 _ (by rw [th0]; rfl)
            obtain ⟨b_36, hb_36, mb_36, tb_36⟩ := hG h0 mh0 26 _ (by rw [th0]; rfl)
            obtain ⟨b_37, hb_37, mb_37, tb_37⟩ := hG h0 mh0 32 _ (by rw [th0]; rfl)
            refine t_cv (va_runV (As := [.int p1]) (rest := []) ⟨hx, hb, hml, hown, hts⟩ (cz_X12_findsBag l D cA L T r hG hLA.1 σ ρ_32 hB.2.1 _ h0 mh0 th0 p1 b_35 hb_35 mb_35 tb_35 b_36 hb_36 mb_36 tb_36 b_37 hb_37 mb_37 tb_37 (by first | omega | decide) (by first | omega | decide)) (cV hts mv_X12_findsBag mw_8_14 rfl rfl ⟨Nat.le_of_ble_eq_true rfl, Nat.le_of_ble_eq_true rfl⟩) (pV hB.1 hK hN mh0 th0 (show shp cA 12 _ _ _ = .inr (12, Fs12 _ _ _) from rfl) rfl) rfl rfl hl.1 rfl (lv_room (Nat.le_of_ble_eq_true rfl)) dX12_bag_41 ⟨Nat.le_of_ble_eq_true rfl, Nat.le_of_ble_eq_true rfl⟩) hLA hA hB hS (by decide) (fun σ_38 ρ_39 H locs hB fσ_38 pσ_38 hS => ?_)
            refine lv_iload_n hx hb dX12_bag_44 rfl (lv_at hl 2 rfl) ?_
            refine lv_iconst (v := (-1)) hx hb dX12_bag_45 (by decide) ?_
            refine lv_icmp_ne (tgt := 56) hx hb dX12_bag_46 (by decide) (fun c_41 => ?_) (fun c_41 => ?_)
            · skip
              have uc_41 := i_ne (n := (-1)) (by decide) c_41
              refine lv_iload_n hx hb dX12_bag_56 rfl (lv_at hl 2 rfl) ?_
              refine lv_bipush (v := (-2)) hx hb dX12_bag_57 (by decide) ?_
              refine lv_icmp_ne (tgt := 69) hx hb dX12_bag_59 (by decide) (fun c_42 => ?_) (fun c_42 => ?_)
              · skip
                have uc_42 := i_ne (n := (-2)) (by decide) c_42
                refine lv_aload_n hx hb dX12_bag_69 rfl (lv_at hl 0 rfl) ?_
                refine t_gr hx hb hts hown hK hG hB mh0 th0 fq_12_29 rfl mw_6_5 dX12_bag_70 (fun b_43 hb_43 mb_43 tb_43 => ?_)
                refine lv_iload_n hx hb dX12_bag_73 rfl (lv_at hl 2 rfl) ?_
                refine t_ai hx hb hK hB mb_43 tb_43 ai_76 (fun _ => rfl) (i_in (by omega) (by omega)) dX12_bag_74 (fun x_44 ex_44 lx_44 ux_44 => ?_)
                have cx_44 := congrArg Int32.toInt ex_44
                exact W.iret (v := x_44) hx hb hr (fun t ht hW => ⟨⟨x_44, (σ_38, ρ_39), rfl, ⟨hB.2.1, hB.2.2, trivial⟩, (show TP D cA L T r σ_38 ρ_39 t.heap from by rw [ht]; exact hB.1)⟩, hS.F ht⟩) hS.2.2 dX12_bag_75
              · skip
                have uc_42 := i_eq (n := (-2)) (by decide) c_42
                refine lv_aload_n hx hb dX12_bag_62 rfl (lv_at hl 0 rfl) ?_
                refine t_gi hx hb hts hown hK hB mh0 th0 fi_12_31 rfl mw_6_7 dX12_bag_63 (fun x_45 ex_45 lx_45 ux_45 => ?_)
                have cx_45 := congrArg Int32.toInt ex_45
                refine lv_goto (tgt := 75) hx hb dX12_bag_66 (by decide) ?_
                exact W.iret (v := x_45) hx hb hr (fun t ht hW => ⟨⟨x_45, (σ_38, ρ_39), rfl, ⟨hB.2.1, hB.2.2, trivial⟩, (show TP D cA L T r σ_38 ρ_39 t.heap from by rw [ht]; exact hB.1)⟩, hS.F ht⟩) hS.2.2 dX12_bag_75
            · skip
              have uc_41 := i_eq (n := (-1)) (by decide) c_41
              refine lv_aload_n hx hb dX12_bag_49 rfl (lv_at hl 0 rfl) ?_
              refine t_gi hx hb hts hown hK hB mh0 th0 fi_12_30 rfl mw_6_6 dX12_bag_50 (fun x_46 ex_46 lx_46 ux_46 => ?_)
              have cx_46 := congrArg Int32.toInt ex_46
              refine lv_goto (tgt := 75) hx hb dX12_bag_53 (by decide) ?_
              exact W.iret (v := x_46) hx hb hr (fun t ht hW => ⟨⟨x_46, (σ_38, ρ_39), rfl, ⟨hB.2.1, hB.2.2, trivial⟩, (show TP D cA L T r σ_38 ρ_39 t.heap from by rw [ht]; exact hB.1)⟩, hS.F ht⟩) hS.2.2 dX12_bag_75
          · skip
            have uc_34 := i_eq (n := 0) (by decide) c_34
            refine lv_bipush (v := (-3)) hx hb dX12_bag_36 (by decide) ?_
            exact W.iret (v := (-3)) hx hb hr (fun t ht hW => ⟨⟨(-3), (σ, ρ_32), rfl, ⟨hB.2.1, hB.2.2, trivial⟩, (show TP D cA L T r σ ρ_32 t.heap from by rw [ht]; exact hB.1)⟩, hS.F ht⟩) hS.2.2 dX12_bag_38
