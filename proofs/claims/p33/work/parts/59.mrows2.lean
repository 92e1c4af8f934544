theorem dX12_findsDownwards_0 : decode cX12_findsDownwards 0 = .ok (.iconst 1, 1) := by decide +kernel
theorem dX12_findsDownwards_1 : decode cX12_findsDownwards 1 = .ok (.istore_n 2, 1) := by decide +kernel
theorem dX12_findsDownwards_2 : decode cX12_findsDownwards 2 = .ok (.aload_n 0, 1) := by decide +kernel
theorem dX12_findsDownwards_3 : decode cX12_findsDownwards 3 = .ok (.iconst (-1), 1) := by decide +kernel
theorem dX12_findsDownwards_4 : decode cX12_findsDownwards 4 = .ok (.putfield 392, 3) := by decide +kernel
theorem dX12_findsDownwards_7 : decode cX12_findsDownwards 7 = .ok (.iconst 0, 1) := by decide +kernel
theorem dX12_findsDownwards_8 : decode cX12_findsDownwards 8 = .ok (.istore_n 3, 1) := by decide +kernel
theorem dX12_findsDownwards_9 : decode cX12_findsDownwards 9 = .ok (.iload_n 3, 1) := by decide +kernel
theorem dX12_findsDownwards_10 : decode cX12_findsDownwards 10 = .ok (.iconst 5, 1) := by decide +kernel
theorem dX12_findsDownwards_11 : decode cX12_findsDownwards 11 = .ok (.if_icmp .ge 71, 3) := by decide +kernel
theorem dX12_findsDownwards_14 : decode cX12_findsDownwards 14 = .ok (.aload_n 0, 1) := by decide +kernel
theorem dX12_findsDownwards_15 : decode cX12_findsDownwards 15 = .ok (.getfield 58, 3) := by decide +kernel
theorem dX12_findsDownwards_18 : decode cX12_findsDownwards 18 = .ok (.iload_n 3, 1) := by decide +kernel
theorem dX12_findsDownwards_19 : decode cX12_findsDownwards 19 = .ok (.iconst 0, 1) := by decide +kernel
theorem dX12_findsDownwards_20 : decode cX12_findsDownwards 20 = .ok (.iastore, 1) := by decide +kernel
theorem dX12_findsDownwards_21 : decode cX12_findsDownwards 21 = .ok (.iconst 0, 1) := by decide +kernel
theorem dX12_findsDownwards_22 : decode cX12_findsDownwards 22 = .ok (.istore 4, 2) := by decide +kernel
theorem dX12_findsDownwards_24 : decode cX12_findsDownwards 24 = .ok (.iconst 0, 1) := by decide +kernel
theorem dX12_findsDownwards_25 : decode cX12_findsDownwards 25 = .ok (.istore 5, 2) := by decide +kernel
theorem dX12_findsDownwards_27 : decode cX12_findsDownwards 27 = .ok (.iload 5, 2) := by decide +kernel
theorem dX12_findsDownwards_29 : decode cX12_findsDownwards 29 = .ok (.aload_n 0, 1) := by decide +kernel
theorem dX12_findsDownwards_30 : decode cX12_findsDownwards 30 = .ok (.iload_n 1, 1) := by decide +kernel
theorem dX12_findsDownwards_31 : decode cX12_findsDownwards 31 = .ok (.iconst 0, 1) := by decide +kernel
theorem dX12_findsDownwards_32 : decode cX12_findsDownwards 32 = .ok (.invokevirtual 324, 3) := by decide +kernel
theorem dX12_findsDownwards_35 : decode cX12_findsDownwards 35 = .ok (.if_icmp .ge 21, 3) := by decide +kernel
theorem dX12_findsDownwards_38 : decode cX12_findsDownwards 38 = .ok (.iload 4, 2) := by decide +kernel
theorem dX12_findsDownwards_40 : decode cX12_findsDownwards 40 = .ok (.aload_n 0, 1) := by decide +kernel
theorem dX12_findsDownwards_41 : decode cX12_findsDownwards 41 = .ok (.iload 5, 2) := by decide +kernel
theorem dX12_findsDownwards_43 : decode cX12_findsDownwards 43 = .ok (.iload_n 3, 1) := by decide +kernel
theorem dX12_findsDownwards_44 : decode cX12_findsDownwards 44 = .ok (.invokevirtual 313, 3) := by decide +kernel
theorem dX12_findsDownwards_47 : decode cX12_findsDownwards 47 = .ok (.iadd, 1) := by decide +kernel
theorem dX12_findsDownwards_48 : decode cX12_findsDownwards 48 = .ok (.istore 4, 2) := by decide +kernel
theorem dX12_findsDownwards_50 : decode cX12_findsDownwards 50 = .ok (.iinc 5 1, 3) := by decide +kernel
theorem dX12_findsDownwards_53 : decode cX12_findsDownwards 53 = .ok (.goto (-26), 3) := by decide +kernel
theorem dX12_findsDownwards_56 : decode cX12_findsDownwards 56 = .ok (.aload_n 0, 1) := by decide +kernel
theorem dX12_findsDownwards_57 : decode cX12_findsDownwards 57 = .ok (.getfield 64, 3) := by decide +kernel
theorem dX12_findsDownwards_60 : decode cX12_findsDownwards 60 = .ok (.iload_n 3, 1) := by decide +kernel
theorem dX12_findsDownwards_61 : decode cX12_findsDownwards 61 = .ok (.iload 4, 2) := by decide +kernel
theorem dX12_findsDownwards_63 : decode cX12_findsDownwards 63 = .ok (.bipush 9, 2) := by decide +kernel
theorem dX12_findsDownwards_65 : decode cX12_findsDownwards 65 = .ok (.if_icmp .ge 8, 3) := by decide +kernel
theorem dX12_findsDownwards_73 : decode cX12_findsDownwards 73 = .ok (.bipush 9, 2) := by decide +kernel
theorem dX12_findsDownwards_75 : decode cX12_findsDownwards 75 = .ok (.iastore, 1) := by decide +kernel
theorem dX12_findsDownwards_76 : decode cX12_findsDownwards 76 = .ok (.iinc 3 1, 3) := by decide +kernel
theorem dX12_findsDownwards_79 : decode cX12_findsDownwards 79 = .ok (.goto (-70), 3) := by decide +kernel
theorem dX12_findsDownwards_68 : decode cX12_findsDownwards 68 = .ok (.iload 4, 2) := by decide +kernel
theorem dX12_findsDownwards_70 : decode cX12_findsDownwards 70 = .ok (.goto 5, 3) := by decide +kernel
theorem dX12_findsDownwards_82 : decode cX12_findsDownwards 82 = .ok (.iload_n 2, 1) := by decide +kernel
theorem dX12_findsDownwards_83 : decode cX12_findsDownwards 83 = .ok (.ifCond .eq 86, 3) := by decide +kernel
theorem dX12_findsDownwards_86 : decode cX12_findsDownwards 86 = .ok (.aload_n 0, 1) := by decide +kernel
theorem dX12_findsDownwards_87 : decode cX12_findsDownwards 87 = .ok (.iconst 3, 1) := by decide +kernel
theorem dX12_findsDownwards_88 : decode cX12_findsDownwards 88 = .ok (.invokevirtual 398, 3) := by decide +kernel
theorem dX12_findsDownwards_91 : decode cX12_findsDownwards 91 = .ok (.istore_n 3, 1) := by decide +kernel
theorem dX12_findsDownwards_92 : decode cX12_findsDownwards 92 = .ok (.iload_n 3, 1) := by decide +kernel
theorem dX12_findsDownwards_93 : decode cX12_findsDownwards 93 = .ok (.aload_n 0, 1) := by decide +kernel
theorem dX12_findsDownwards_94 : decode cX12_findsDownwards 94 = .ok (.iload_n 1, 1) := by decide +kernel
theorem dX12_findsDownwards_95 : decode cX12_findsDownwards 95 = .ok (.iconst 2, 1) := by decide +kernel
theorem dX12_findsDownwards_96 : decode cX12_findsDownwards 96 = .ok (.invokevirtual 324, 3) := by decide +kernel
theorem dX12_findsDownwards_99 : decode cX12_findsDownwards 99 = .ok (.aload_n 0, 1) := by decide +kernel
theorem dX12_findsDownwards_100 : decode cX12_findsDownwards 100 = .ok (.iload_n 1, 1) := by decide +kernel
theorem dX12_findsDownwards_101 : decode cX12_findsDownwards 101 = .ok (.iconst 3, 1) := by decide +kernel
theorem dX12_findsDownwards_102 : decode cX12_findsDownwards 102 = .ok (.invokevirtual 324, 3) := by decide +kernel
theorem dX12_findsDownwards_105 : decode cX12_findsDownwards 105 = .ok (.isub, 1) := by decide +kernel
theorem dX12_findsDownwards_106 : decode cX12_findsDownwards 106 = .ok (.if_icmp .gt 51, 3) := by decide +kernel
theorem dX12_findsDownwards_157 : decode cX12_findsDownwards 157 = .ok (.aload_n 0, 1) := by decide +kernel
theorem dX12_findsDownwards_158 : decode cX12_findsDownwards 158 = .ok (.invokevirtual 407, 3) := by decide +kernel
theorem dX12_findsDownwards_161 : decode cX12_findsDownwards 161 = .ok (.aload_n 0, 1) := by decide +kernel
theorem dX12_findsDownwards_162 : decode cX12_findsDownwards 162 = .ok (.invokevirtual 410, 3) := by decide +kernel
theorem dX12_findsDownwards_165 : decode cX12_findsDownwards 165 = .ok (.istore_n 2, 1) := by decide +kernel
theorem dX12_findsDownwards_166 : decode cX12_findsDownwards 166 = .ok (.goto (-84), 3) := by decide +kernel
theorem dX12_findsDownwards_109 : decode cX12_findsDownwards 109 = .ok (.aload_n 0, 1) := by decide +kernel
theorem dX12_findsDownwards_110 : decode cX12_findsDownwards 110 = .ok (.iload_n 1, 1) := by decide +kernel
theorem dX12_findsDownwards_111 : decode cX12_findsDownwards 111 = .ok (.invokevirtual 401, 3) := by decide +kernel
theorem dX12_findsDownwards_114 : decode cX12_findsDownwards 114 = .ok (.ifCond .eq 43, 3) := by decide +kernel
theorem dX12_findsDownwards_117 : decode cX12_findsDownwards 117 = .ok (.aload_n 0, 1) := by decide +kernel
theorem dX12_findsDownwards_118 : decode cX12_findsDownwards 118 = .ok (.iconst 1, 1) := by decide +kernel
theorem dX12_findsDownwards_119 : decode cX12_findsDownwards 119 = .ok (.invokevirtual 398, 3) := by decide +kernel
theorem dX12_findsDownwards_122 : decode cX12_findsDownwards 122 = .ok (.istore 4, 2) := by decide +kernel
theorem dX12_findsDownwards_124 : decode cX12_findsDownwards 124 = .ok (.iload 4, 2) := by decide +kernel
theorem dX12_findsDownwards_126 : decode cX12_findsDownwards 126 = .ok (.aload_n 0, 1) := by decide +kernel
theorem dX12_findsDownwards_127 : decode cX12_findsDownwards 127 = .ok (.getfield 392, 3) := by decide +kernel
theorem dX12_findsDownwards_130 : decode cX12_findsDownwards 130 = .ok (.if_icmp .gt 20, 3) := by decide +kernel
theorem dX12_findsDownwards_150 : decode cX12_findsDownwards 150 = .ok (.aload_n 0, 1) := by decide +kernel
theorem dX12_findsDownwards_151 : decode cX12_findsDownwards 151 = .ok (.iload 4, 2) := by decide +kernel
theorem dX12_findsDownwards_153 : decode cX12_findsDownwards 153 = .ok (.iload_n 3, 1) := by decide +kernel
theorem dX12_findsDownwards_154 : decode cX12_findsDownwards 154 = .ok (.invokevirtual 404, 3) := by decide +kernel
theorem dX12_findsDownwards_133 : decode cX12_findsDownwards 133 = .ok (.iload 4, 2) := by decide +kernel
theorem dX12_findsDownwards_135 : decode cX12_findsDownwards 135 = .ok (.aload_n 0, 1) := by decide +kernel
theorem dX12_findsDownwards_136 : decode cX12_findsDownwards 136 = .ok (.getfield 392, 3) := by decide +kernel
theorem dX12_findsDownwards_139 : decode cX12_findsDownwards 139 = .ok (.if_icmp .ne 18, 3) := by decide +kernel
theorem dX12_findsDownwards_142 : decode cX12_findsDownwards 142 = .ok (.iload_n 3, 1) := by decide +kernel
theorem dX12_findsDownwards_143 : decode cX12_findsDownwards 143 = .ok (.aload_n 0, 1) := by decide +kernel
theorem dX12_findsDownwards_144 : decode cX12_findsDownwards 144 = .ok (.getfield 395, 3) := by decide +kernel
theorem dX12_findsDownwards_147 : decode cX12_findsDownwards 147 = .ok (.if_icmp .ge 10, 3) := by decide +kernel
theorem dX12_findsDownwards_169 : decode cX12_findsDownwards 169 = .ok (.return_, 1) := by decide +kernel
set_option maxHeartbeats 4000000 in
set_option maxRecDepth 100000 in
theorem cz_X12_findsDownwards (l : Launch) (D : va_G) (cA : Nat → ClassId) (L : List Nat) (T : Nat → Nat) (r : Rg) (hG : GR L T r) (hL : L.Nodup) (σ : Sg) (ρ : Lg) (hW : WT L ry T σ) (sz : Nat) (h0 : Nat) (mh0 : h0 ∈ L) (th0 : T h0 = 12) (p1 : Int32) (br : Nat) (hbr : r h0 28 = some br) (mbr : br ∈ L) (tbr : T br = 75) (bm : Nat) (hbm : r h0 26 = some bm) (mbm : bm ∈ L) (tbm : T bm = 73) (ba : Nat) (hba : r h0 32 = some ba) (mba : ba ∈ L) (tba : T ba = 77) (w0 : 0 ≤ p1.toInt) (w1 : p1.toInt ≤ 3) : Met l yX12_findsDownwards (.code yX12_findsDownwards cX12_findsDownwards 6 none :: wsA) ({ frames := 3, cells := 0, slots := 0, locals := 67 }) (PR D cA L T r σ ρ sz [.ref h0, .int p1]) (QV D cA L T r ry [(12, 30), (12, 31), (73, 1000), (75, 1000), (76, 1000), (77, 1000)] σ sz (fun σ1 => True)) 0 0 (dm L sz) := by
  refine Met.ofW (cc := cX12_findsDownwards) (maxL := 6) (ret := none) (by decide) rfl ?_
  intro p e s m args below meth c s₁ B hml hv
  obtain ⟨rfl, hsz, hP, hK, hN⟩ := hv
  have hx := B.exec
  have hb := B.bytes
  have hr := B.returns
  have hts : ∀ w ∈ wsA, w.before _ s = true := fun w h => atoms_spec (ws := .code yX12_findsDownwards cX12_findsDownwards 6 none :: wsA) B.pre w (List.mem_cons_of_mem _ h)
  have hown : s.vm.findClass RX12 = some m.cls := findClass_of_methodNamed B.named
  subst hsz
  have hLA : LA (dm L s.heap.size) L := ⟨hL, fun a h => Or.inl h⟩
  have hA : ∀ q : Nat, s.heap.size ≤ q → dm L s.heap.size q := fun q h => Or.inr h
  have hS : va_S (dm L s.heap.size) s.heap s.heap [] := va_S.rf
  have hB : TS D cA L T r ry [(12, 30), (12, 31), (73, 1000), (75, 1000), (76, 1000), (77, 1000)] σ σ ρ s.heap := ⟨hP, hW, FR.rf⟩
  have hl := lv_entry ([.ref h0, .int p1]) (n := 6) (Nat.le_of_ble_eq_true rfl)
  rw [lg_entry_eq]
  generalize (lg_sl ([.ref h0, .int p1]) ++ List.replicate (6 - (lg_sl ([.ref h0, .int p1])).length) Slot.unset).toArray = ls at hl ⊢
  have hl : lv_has ls 6 [(0, .ref h0), (1, .int p1)] := hl
  refine lv_iconst (v := 1) hx hb dX12_findsDownwards_0 (by decide) ?_
  refine lv_istore_n (lv' := [(2, .int 1), (0, .ref h0), (1, .int p1)]) hx hb dX12_findsDownwards_1 rfl hl (by decide) rfl (fun ls hl => ?_)
  refine lv_aload_n hx hb dX12_findsDownwards_2 rfl (lv_at hl 1 rfl) ?_
  refine lv_iconst (v := (-1)) hx hb dX12_findsDownwards_3 (by decide) ?_
  refine t_pi hx hb hts hown hK hLA hB hS mh0 th0 fi_12_30 rfl rfl rfl (i_lo _) (i_hi _) (Or.inl (by decide)) mw_6_6 dX12_findsDownwards_4 (fun H locs σ_1 eσ_1 hB hS => ?_)
  have k_2 : σ_1 h0 30 = (-1) := by rw [eσ_1]; exact up2_same _ _ _ _
  refine lv_iconst (v := 0) hx hb dX12_findsDownwards_7 (by decide) ?_
  refine lv_istore_n (lv' := [(3, .int 0), (2, .int 1), (0, .ref h0), (1, .int p1)]) hx hb dX12_findsDownwards_8 rfl hl (by decide) rfl (fun ls hl => ?_)
  refine w_loop (α := Int32 × Sg × Lg) (fun (i_3, σ_4, ρ_5) H locs ls => 0 ≤ i_3.toInt ∧ i_3.toInt ≤ 5 ∧ σ_4 h0 30 = (-1) ∧ (∀ j : Nat, j < i_3.toInt.toNat → σ_4 br j = 0) ∧ TS D cA L T r ry [(12, 30), (12, 31), (73, 1000), (75, 1000), (76, 1000), (77, 1000)] σ σ_4 ρ_5 H ∧ va_S (dm L s.heap.size) s.heap H locs ∧ lv_has ls 6 [(3, .int i_3), (2, .int 1), (0, .ref h0), (1, .int p1)]) (fun (i_3, σ_4, ρ_5) => (5 - i_3.toInt).toNat) ?_ ⟨0, σ_1, ρ⟩ ⟨(by decide), (by decide), k_2, (fun j hj => absurd hj (by show ¬ j < (0 : Int32).toInt.toNat; rw [show (0 : Int32).toInt.toNat = 0 from rfl]; omega)), hB, hS, lv_sub hl [0, 1, 2, 3] rfl⟩
  rintro ⟨i_3, σ_4, ρ_5⟩ H locs ls ⟨li_3, ui_3, k_7, g_8, hB, hS, hl⟩ ih_6
  refine lv_iload_n hx hb dX12_findsDownwards_9 rfl (lv_at hl 0 rfl) ?_
  refine lv_iconst (v := 5) hx hb dX12_findsDownwards_10 (by decide) ?_
  refine lv_icmp_ge (tgt := 82) hx hb dX12_findsDownwards_11 (by decide) (fun c_9 => ?_) (fun c_9 => ?_)
  · skip
    have uc_9 := i_ge (n := 5) (by decide) c_9
    have w_15 : 0 ≤ (σ_4 ba 0).toInt ∧ (σ_4 ba 0).toInt ≤ 9 := by have z := hB.2.1 ba mba 0; rw [tba] at z; exact z
    have w_17 : 0 ≤ (σ_4 ba 1).toInt ∧ (σ_4 ba 1).toInt ≤ 9 := by have z := hB.2.1 ba mba 1; rw [tba] at z; exact z
    have w_19 : 0 ≤ (σ_4 ba 2).toInt ∧ (σ_4 ba 2).toInt ≤ 9 := by have z := hB.2.1 ba mba 2; rw [tba] at z; exact z
    have w_21 : 0 ≤ (σ_4 ba 3).toInt ∧ (σ_4 ba 3).toInt ≤ 9 := by have z := hB.2.1 ba mba 3; rw [tba] at z; exact z
    have w_23 : 0 ≤ (σ_4 ba 4).toInt ∧ (σ_4 ba 4).toInt ≤ 9 := by have z := hB.2.1 ba mba 4; rw [tba] at z; exact z
    refine w_loop (α := Int32 × Int32 × Sg × Lg) (fun (i_10, i_11, σ_12, ρ_13) H locs ls => 0 ≤ i_10.toInt ∧ i_10.toInt ≤ 1 ∧ ((σ_12 br 0).toInt ≤ (σ_12 ba 0).toInt) ∧ ((σ_12 br 1).toInt ≤ (σ_12 ba 1).toInt) ∧ ((σ_12 br 2).toInt ≤ (σ_12 ba 2).toInt) ∧ ((σ_12 br 3).toInt ≤ (σ_12 ba 3).toInt) ∧ ((σ_12 br 4).toInt ≤ (σ_12 ba 4).toInt) ∧ TS D cA L T r ry [(12, 30), (12, 31), (73, 1000), (75, 1000), (76, 1000), (77, 1000)] σ σ_12 ρ_13 H ∧ va_S (dm L s.heap.size) s.heap H locs ∧ lv_has ls 6 [(3, .int i_11), (2, .int i_10), (0, .ref h0), (1, .int p1)]) (fun (i_10, i_11, σ_12, ρ_13) => (2 * (99999 - ((σ_12 br 0).toInt * 10000 + (σ_12 br 1).toInt * 1000 + (σ_12 br 2).toInt * 100 + (σ_12 br 3).toInt * 10 + (σ_12 br 4).toInt * 1)) + (i_10 : Int32).toInt).toNat) ?_ ⟨1, i_3, σ_4, ρ_5⟩ ⟨(by decide), (by decide), (by rw [g_8 0 (by omega), show (0 : Int32).toInt = 0 from by decide]; omega), (by rw [g_8 1 (by omega), show (0 : Int32).toInt = 0 from by decide]; omega), (by rw [g_8 2 (by omega), show (0 : Int32).toInt = 0 from by decide]; omega), (by rw [g_8 3 (by omega), show (0 : Int32).toInt = 0 from by decide]; omega), (by rw [g_8 4 (by omega), show (0 : Int32).toInt = 0 from by decide]; omega), hB, hS, lv_sub hl [0, 1, 2, 3] rfl⟩
    rintro ⟨i_10, i_11, σ_12, ρ_13⟩ H locs ls ⟨li_10, ui_10, g_16, g_18, g_20, g_22, g_24, hB, hS, hl⟩ ih_14
    have w_25 : 0 ≤ (σ_12 br 0).toInt ∧ (σ_12 br 0).toInt ≤ 9 := by have z := hB.2.1 br mbr 0; rw [tbr] at z; exact z
    have w_26 : 0 ≤ (σ_12 ba 0).toInt ∧ (σ_12 ba 0).toInt ≤ 9 := by have z := hB.2.1 ba mba 0; rw [tba] at z; exact z
    have w_27 : 0 ≤ (σ_12 br 1).toInt ∧ (σ_12 br 1).toInt ≤ 9 := by have z := hB.2.1 br mbr 1; rw [tbr] at z; exact z
    have w_28 : 0 ≤ (σ_12 ba 1).toInt ∧ (σ_12 ba 1).toInt ≤ 9 := by have z := hB.2.1 ba mba 1; rw [tba] at z; exact z
    have w_29 : 0 ≤ (σ_12 br 2).toInt ∧ (σ_12 br 2).toInt ≤ 9 := by have z := hB.2.1 br mbr 2; rw [tbr] at z; exact z
    have w_30 : 0 ≤ (σ_12 ba 2).toInt ∧ (σ_12 ba 2).toInt ≤ 9 := by have z := hB.2.1 ba mba 2; rw [tba] at z; exact z
    have w_31 : 0 ≤ (σ_12 br 3).toInt ∧ (σ_12 br 3).toInt ≤ 9 := by have z := hB.2.1 br mbr 3; rw [tbr] at z; exact z
    have w_32 : 0 ≤ (σ_12 ba 3).toInt ∧ (σ_12 ba 3).toInt ≤ 9 := by have z := hB.2.1 ba mba 3; rw [tba] at z; exact z
    have w_33 : 0 ≤ (σ_12 br 4).toInt ∧ (σ_12 br 4).toInt ≤ 9 := by have z := hB.2.1 br mbr 4; rw [tbr] at z; exact z
    have w_34 : 0 ≤ (σ_12 ba 4).toInt ∧ (σ_12 ba 4).toInt ≤ 9 := by have z := hB.2.1 ba mba 4; rw [tba] at z; exact z
    refine lv_iload_n hx hb dX12_findsDownwards_82 rfl (lv_at hl 1 rfl) ?_
    refine lv_if_eq (tgt := 169) hx hb dX12_findsDownwards_83 (by decide) (fun c_35 => ?_) (fun c_35 => ?_)
    · skip
      have uc_35 := i_eq (n := 0) (by decide) c_35
      exact W.vret hx hb hr (fun t ht hW => ⟨⟨(σ_12, ρ_13), rfl, ⟨hB.2.1, hB.2.2, trivial⟩, (show TP D cA L T r σ_12 ρ_13 t.heap from by rw [ht]; exact hB.1)⟩, hS.F ht⟩) hS.2.2 dX12_findsDownwards_169
    · skip
      have uc_35 := i_ne (n := 0) (by decide) c_35
      refine lv_aload_n hx hb dX12_findsDownwards_86 rfl (lv_at hl 2 rfl) ?_
      refine lv_iconst (v := 3) hx hb dX12_findsDownwards_87 (by decide) ?_
      refine t_ci (va_runV (As := [.int 3]) (rest := []) ⟨hx, hb, hml, hown, hts⟩ (cy_X12_rowSum l D cA L T r hG hLA.1 σ_12 ρ_13 hB.2.1 _ h0 mh0 th0 3 (by first | omega | decide) (by first | omega | decide)) (cV hts mv_X12_rowSum mw_8_18 rfl rfl ⟨Nat.le_of_ble_eq_true rfl, Nat.le_of_ble_eq_true rfl⟩) (pV hB.1 hK hN mh0 th0 (show shp cA 12 _ _ _ = .inr (12, Fs12 _ _ _) from rfl) rfl) rfl rfl hl.1 rfl (lv_room (Nat.le_of_ble_eq_true rfl)) dX12_findsDownwards_88 ⟨Nat.le_of_ble_eq_true rfl, Nat.le_of_ble_eq_true rfl⟩) hLA hA hB hS (by decide) (fun x_38 σ_36 ρ_37 H locs hB fσ_36 pσ_36 hS => ?_)
      have qσ_36 := FR.nil fσ_36
      subst qσ_36
      refine lv_istore_n (lv' := [(3, .int x_38), (2, .int i_10), (0, .ref h0), (1, .int p1)]) hx hb dX12_findsDownwards_91 rfl hl (by decide) rfl (fun ls hl => ?_)
      refine lv_iload_n hx hb dX12_findsDownwards_92 rfl (lv_at hl 0 rfl) ?_
      refine lv_aload_n hx hb dX12_findsDownwards_93 rfl (lv_at hl 2 rfl) ?_
      refine lv_iload_n hx hb dX12_findsDownwards_94 rfl (lv_at hl 3 rfl) ?_
      refine lv_iconst (v := 2) hx hb dX12_findsDownwards_95 (by decide) ?_
      refine t_ci (va_runV (As := [.int p1, .int 2]) (rest := [.int x_38]) ⟨hx, hb, hml, hown, hts⟩ (cy_X12_pilgrimOf l D cA L T r hG hLA.1 σ_12 ρ_37 hB.2.1 _ h0 mh0 th0 p1 2 (by first | omega | decide) (by first | omega | decide) (by first | omega | decide) (by first | omega | decide)) (cV hts mv_X12_pilgrimOf mw_7_69 rfl rfl ⟨Nat.le_of_ble_eq_true rfl, Nat.le_of_ble_eq_true rfl⟩) (pV hB.1 hK hN mh0 th0 (show shp cA 12 _ _ _ = .inr (12, Fs12 _ _ _) from rfl) rfl) rfl rfl hl.1 rfl (lv_room (Nat.le_of_ble_eq_true rfl)) dX12_findsDownwards_96 ⟨Nat.le_of_ble_eq_true rfl, Nat.le_of_ble_eq_true rfl⟩) hLA hA hB hS (by decide) (fun x_41 σ_39 ρ_40 H locs hB fσ_39 pσ_39 hS => ?_)
      have qσ_39 := FR.nil fσ_39
      subst qσ_39
      refine lv_aload_n hx hb dX12_findsDownwards_99 rfl (lv_at hl 2 rfl) ?_
      refine lv_iload_n hx hb dX12_findsDownwards_100 rfl (lv_at hl 3 rfl) ?_
      refine lv_iconst (v := 3) hx hb dX12_findsDownwards_101 (by decide) ?_
      refine t_ci (va_runV (As := [.int p1, .int 3]) (rest := [.int x_41, .int x_38]) ⟨hx, hb, hml, hown, hts⟩ (cy_X12_pilgrimOf l D cA L T r hG hLA.1 σ_12 ρ_40 hB.2.1 _ h0 mh0 th0 p1 3 (by first | omega | decide) (by first | omega | decide) (by first | omega | decide) (by first | omega | decide)) (cV hts mv_X12_pilgrimOf mw_7_69 rfl rfl ⟨Nat.le_of_ble_eq_true rfl, Nat.le_of_ble_eq_true rfl⟩) (pV hB.1 hK hN mh0 th0 (show shp cA 12 _ _ _ = .inr (12, Fs12 _ _ _) from rfl) rfl) rfl rfl hl.1 rfl (lv_room (Nat.le_of_ble_eq_true rfl)) dX12_findsDownwards_102 ⟨Nat.le_of_ble_eq_true rfl, Nat.le_of_ble_eq_true rfl⟩) hLA hA hB hS (by decide) (fun x_44 σ_42 ρ_43 H locs hB fσ_42 pσ_42 hS => ?_)
      have qσ_42 := FR.nil fσ_42
      subst qσ_42
      refine lv_isub hx hb dX12_findsDownwards_105 ?_
      refine lv_topi (fun x_45 ex_45 => ?_)
      try have vx_45 := b_sub (rfl : x_41.toInt = _) (rfl : x_44.toInt = _) ex_45 (by omega) (by omega)
      refine lv_icmp_gt (tgt := 157) hx hb dX12_findsDownwards_106 (by decide) (fun c_46 => ?_) (fun c_46 => ?_)
      · skip
        have uc_46 := j_lt c_46
        refine lv_aload_n hx hb dX12_findsDownwards_157 rfl (lv_at hl 2 rfl) ?_
        refine t_cv (va_runV (As := []) (rest := []) ⟨hx, hb, hml, hown, hts⟩ (cz_X12_mostAgain l D cA L T r hG hLA.1 σ_12 ρ_43 hB.2.1 _ h0 mh0 th0 ba hba mba tba bm hbm mbm tbm) (cV hts mv_X12_mostAgain mw_8_30 rfl rfl ⟨Nat.le_of_ble_eq_true rfl, Nat.le_of_ble_eq_true rfl⟩) (pV hB.1 hK hN mh0 th0 (show shp cA 12 _ _ _ = .inr (12, Fs12 _ _ _) from rfl) rfl) rfl rfl hl.1 rfl (lv_room (Nat.le_of_ble_eq_true rfl)) dX12_findsDownwards_158 ⟨Nat.le_of_ble_eq_true rfl, Nat.le_of_ble_eq_true rfl⟩) hLA hA hB hS (by decide) (fun σ_47 ρ_48 H locs hB fσ_47 pσ_47 hS => ?_)
        obtain ⟨g_50, g_51, g_52, g_53, g_54⟩ := pσ_47
        refine lv_aload_n hx hb dX12_findsDownwards_161 rfl (lv_at hl 2 rfl) ?_
        have k_55 : σ_47 ba 0 = (σ_12 ba 0) := (FR.at fσ_47 tba (by decide)).trans rfl
        have cq_56 := congrArg Int32.toInt k_55
        have cq_57 := congrArg Int32.toInt g_50
        have k_58 : σ_47 br 0 = (σ_12 br 0) := (FR.at fσ_47 tbr (by decide)).trans rfl
        have cq_59 := congrArg Int32.toInt k_58
        have k_60 : σ_47 ba 1 = (σ_12 ba 1) := (FR.at fσ_47 tba (by decide)).trans rfl
        have cq_61 := congrArg Int32.toInt k_60
        have cq_62 := congrArg Int32.toInt g_51
        have k_63 : σ_47 br 1 = (σ_12 br 1) := (FR.at fσ_47 tbr (by decide)).trans rfl
        have cq_64 := congrArg Int32.toInt k_63
        have k_65 : σ_47 ba 2 = (σ_12 ba 2) := (FR.at fσ_47 tba (by decide)).trans rfl
        have cq_66 := congrArg Int32.toInt k_65
        have cq_67 := congrArg Int32.toInt g_52
        have k_68 : σ_47 br 2 = (σ_12 br 2) := (FR.at fσ_47 tbr (by decide)).trans rfl
        have cq_69 := congrArg Int32.toInt k_68
        have k_70 : σ_47 ba 3 = (σ_12 ba 3) := (FR.at fσ_47 tba (by decide)).trans rfl
        have cq_71 := congrArg Int32.toInt k_70
        have cq_72 := congrArg Int32.toInt g_53
        have k_73 : σ_47 br 3 = (σ_12 br 3) := (FR.at fσ_47 tbr (by decide)).trans rfl
        have cq_74 := congrArg Int32.toInt k_73
        have k_75 : σ_47 ba 4 = (σ_12 ba 4) := (FR.at fσ_47 tba (by decide)).trans rfl
        have cq_76 := congrArg Int32.toInt k_75
        have cq_77 := congrArg Int32.toInt g_54
        have k_78 : σ_47 br 4 = (σ_12 br 4) := (FR.at fσ_47 tbr (by decide)).trans rfl
        have cq_79 := congrArg Int32.toInt k_78
        refine t_ci (va_runV (As := []) (rest := []) ⟨hx, hb, hml, hown, hts⟩ (cz_X12_hasNextRow l D cA L T r hG hLA.1 σ_47 ρ_48 hB.2.1 _ h0 mh0 th0 br hbr mbr tbr bm hbm mbm tbm (by rw [k_58, g_50]; omega) (by rw [k_63, g_51]; omega) (by rw [k_68, g_52]; omega) (by rw [k_73, g_53]; omega) (by rw [k_78, g_54]; omega)) (cV hts mv_X12_hasNextRow mw_8_34 rfl rfl ⟨Nat.le_of_ble_eq_true rfl, Nat.le_of_ble_eq_true rfl⟩) (pV hB.1 hK hN mh0 th0 (show shp cA 12 _ _ _ = .inr (12, Fs12 _ _ _) from rfl) rfl) rfl rfl hl.1 rfl (lv_room (Nat.le_of_ble_eq_true rfl)) dX12_findsDownwards_162 ⟨Nat.le_of_ble_eq_true rfl, Nat.le_of_ble_eq_true rfl⟩) hLA hA hB hS (by decide) (fun x_82 σ_80 ρ_81 H locs hB fσ_80 pσ_80 hS => ?_)
        obtain ⟨g_83, g_84, g_85, g_86, g_87, g_88, g_89, g_90⟩ := pσ_80
        have w_91 : 0 ≤ (σ_80 br 0).toInt ∧ (σ_80 br 0).toInt ≤ 9 := by have z := hB.2.1 br mbr 0; rw [tbr] at z; exact z
        have w_92 : 0 ≤ (σ_80 br 1).toInt ∧ (σ_80 br 1).toInt ≤ 9 := by have z := hB.2.1 br mbr 1; rw [tbr] at z; exact z
        have w_93 : 0 ≤ (σ_80 br 2).toInt ∧ (σ_80 br 2).toInt ≤ 9 := by have z := hB.2.1 br mbr 2; rw [tbr] at z; exact z
        have w_94 : 0 ≤ (σ_80 br 3).toInt ∧ (σ_80 br 3).toInt ≤ 9 := by have z := hB.2.1 br mbr 3; rw [tbr] at z; exact z
        have w_95 : 0 ≤ (σ_80 br 4).toInt ∧ (σ_80 br 4).toInt ≤ 9 := by have z := hB.2.1 br mbr 4; rw [tbr] at z; exact z
        obtain ⟨lx_82, ux_82⟩ := g_83
        refine lv_istore_n (lv' := [(2, .int x_82), (3, .int x_38), (0, .ref h0), (1, .int p1)]) hx hb dX12_findsDownwards_165 rfl hl (by decide) rfl (fun ls hl => ?_)
        refine lv_goto (tgt := 82) hx hb dX12_findsDownwards_166 (by decide) ?_
        have k_96 : σ_80 ba 0 = (σ_12 ba 0) := (FR.at fσ_80 tba (by decide)).trans k_55
        have k_97 : σ_80 ba 1 = (σ_12 ba 1) := (FR.at fσ_80 tba (by decide)).trans k_60
        have k_98 : σ_80 ba 2 = (σ_12 ba 2) := (FR.at fσ_80 tba (by decide)).trans k_65
        have k_99 : σ_80 ba 3 = (σ_12 ba 3) := (FR.at fσ_80 tba (by decide)).trans k_70
        have k_100 : σ_80 ba 4 = (σ_12 ba 4) := (FR.at fσ_80 tba (by decide)).trans k_75
        exact ih_14 ⟨x_82, x_38, σ_80, ρ_81⟩ _ _ _ ⟨(by omega), (by omega), (by rw [k_96]; (first | omega | decide)), (by rw [k_97]; (first | omega | decide)), (by rw [k_98]; (first | omega | decide)), (by rw [k_99]; (first | omega | decide)), (by rw [k_100]; (first | omega | decide)), hB, hS, lv_sub hl [1, 0, 2, 3] rfl⟩ (by show (2 * (99999 - ((σ_80 br 0).toInt * 10000 + (σ_80 br 1).toInt * 1000 + (σ_80 br 2).toInt * 100 + (σ_80 br 3).toInt * 10 + (σ_80 br 4).toInt * 1)) + (x_82 : Int32).toInt).toNat < (2 * (99999 - ((σ_12 br 0).toInt * 10000 + (σ_12 br 1).toInt * 1000 + (σ_12 br 2).toInt * 100 + (σ_12 br 3).toInt * 10 + (σ_12 br 4).toInt * 1)) + (i_10 : Int32).toInt).toNat; omega)
      · skip
        have uc_46 := j_nlt c_46
        refine lv_aload_n hx hb dX12_findsDownwards_109 rfl (lv_at hl 2 rfl) ?_
        refine lv_iload_n hx hb dX12_findsDownwards_110 rfl (lv_at hl 3 rfl) ?_
        refine t_ci (va_runV (As := [.int p1]) (rest := []) ⟨hx, hb, hml, hown, hts⟩ (cy_X12_canHaveRow l D cA L T r hG hLA.1 σ_12 ρ_43 hB.2.1 _ h0 mh0 th0 p1 (by first | omega | decide) (by first | omega | decide)) (cV hts mv_X12_canHaveRow mw_8_22 rfl rfl ⟨Nat.le_of_ble_eq_true rfl, Nat.le_of_ble_eq_true rfl⟩) (pV hB.1 hK hN mh0 th0 (show shp cA 12 _ _ _ = .inr (12, Fs12 _ _ _) from rfl) rfl) rfl rfl hl.1 rfl (lv_room (Nat.le_of_ble_eq_true rfl)) dX12_findsDownwards_111 ⟨Nat.le_of_ble_eq_true rfl, Nat.le_of_ble_eq_true rfl⟩) hLA hA hB hS (by decide) (fun x_103 σ_101 ρ_102 H locs hB fσ_101 pσ_101 hS => ?_)
        have qσ_101 := FR.nil fσ_101
        subst qσ_101
        obtain ⟨lx_103, ux_103⟩ := pσ_101
        refine lv_if_eq (tgt := 157) hx hb dX12_findsDownwards_114 (by decide) (fun c_104 => ?_) (fun c_104 => ?_)
        · skip
          have uc_104 := i_eq (n := 0) (by decide) c_104
          refine lv_aload_n hx hb dX12_findsDownwards_157 rfl (lv_at hl 2 rfl) ?_
          refine t_cv (va_runV (As := []) (rest := []) ⟨hx, hb, hml, hown, hts⟩ (cz_X12_mostAgain l D cA L T r hG hLA.1 σ_12 ρ_102 hB.2.1 _ h0 mh0 th0 ba hba mba tba bm hbm mbm tbm) (cV hts mv_X12_mostAgain mw_8_30 rfl rfl ⟨Nat.le_of_ble_eq_true rfl, Nat.le_of_ble_eq_true rfl⟩) (pV hB.1 hK hN mh0 th0 (show shp cA 12 _ _ _ = .inr (12, Fs12 _ _ _) from rfl) rfl) rfl rfl hl.1 rfl (lv_room (Nat.le_of_ble_eq_true rfl)) dX12_findsDownwards_158 ⟨Nat.le_of_ble_eq_true rfl, Nat.le_of_ble_eq_true rfl⟩) hLA hA hB hS (by decide) (fun σ_105 ρ_106 H locs hB fσ_105 pσ_105 hS => ?_)
          obtain ⟨g_108, g_109, g_110, g_111, g_112⟩ := pσ_105
          refine lv_aload_n hx hb dX12_findsDownwards_161 rfl (lv_at hl 2 rfl) ?_
          have k_113 : σ_105 ba 0 = (σ_12 ba 0) := (FR.at fσ_105 tba (by decide)).trans rfl
          have cq_114 := congrArg Int32.toInt k_113
          have cq_115 := congrArg Int32.toInt g_108
          have k_116 : σ_105 br 0 = (σ_12 br 0) := (FR.at fσ_105 tbr (by decide)).trans rfl
          have cq_117 := congrArg Int32.toInt k_116
          have k_118 : σ_105 ba 1 = (σ_12 ba 1) := (FR.at fσ_105 tba (by decide)).trans rfl
          have cq_119 := congrArg Int32.toInt k_118
          have cq_120 := congrArg Int32.toInt g_109
          have k_121 : σ_105 br 1 = (σ_12 br 1) := (FR.at fσ_105 tbr (by decide)).trans rfl
          have cq_122 := congrArg Int32.toInt k_121
          have k_123 : σ_105 ba 2 = (σ_12 ba 2) := (FR.at fσ_105 tba (by decide)).trans rfl
          have cq_124 := congrArg Int32.toInt k_123
          have cq_125 := congrArg Int32.toInt g_110
          have k_126 : σ_105 br 2 = (σ_12 br 2) := (FR.at fσ_105 tbr (by decide)).trans rfl
          have cq_127 := congrArg Int32.toInt k_126
          have k_128 : σ_105 ba 3 = (σ_12 ba 3) := (FR.at fσ_105 tba (by decide)).trans rfl
          have cq_129 := congrArg Int32.toInt k_128
          have cq_130 := congrArg Int32.toInt g_111
          have k_131 : σ_105 br 3 = (σ_12 br 3) := (FR.at fσ_105 tbr (by decide)).trans rfl
          have cq_132 := congrArg Int32.toInt k_131
          have k_133 : σ_105 ba 4 = (σ_12 ba 4) := (FR.at fσ_105 tba (by decide)).trans rfl
          have cq_134 := congrArg Int32.toInt k_133
          have cq_135 := congrArg Int32.toInt g_112
          have k_136 : σ_105 br 4 = (σ_12 br 4) := (FR.at fσ_105 tbr (by decide)).trans rfl
          have cq_137 := congrArg Int32.toInt k_136
          refine t_ci (va_runV (As := []) (rest := []) ⟨hx, hb, hml, hown, hts⟩ (cz_X12_hasNextRow l D cA L T r hG hLA.1 σ_105 ρ_106 hB.2.1 _ h0 mh0 th0 br hbr mbr tbr bm hbm mbm tbm (by rw [k_116, g_108]; omega) (by rw [k_121, g_109]; omega) (by rw [k_126, g_110]; omega) (by rw [k_131, g_111]; omega) (by rw [k_136, g_112]; omega)) (cV hts mv_X12_hasNextRow mw_8_34 rfl rfl ⟨Nat.le_of_ble_eq_true rfl, Nat.le_of_ble_eq_true rfl⟩) (pV hB.1 hK hN mh0 th0 (show shp cA 12 _ _ _ = .inr (12, Fs12 _ _ _) from rfl) rfl) rfl rfl hl.1 rfl (lv_room (Nat.le_of_ble_eq_true rfl)) dX12_findsDownwards_162 ⟨Nat.le_of_ble_eq_true rfl, Nat.le_of_ble_eq_true rfl⟩) hLA hA hB hS (by decide) (fun x_140 σ_138 ρ_139 H locs hB fσ_138 pσ_138 hS => ?_)
          obtain ⟨g_141, g_142, g_143, g_144, g_145, g_146, g_147, g_148⟩ := pσ_138
          have w_149 : 0 ≤ (σ_138 br 0).toInt ∧ (σ_138 br 0).toInt ≤ 9 := by have z := hB.2.1 br mbr 0; rw [tbr] at z; exact z
          have w_150 : 0 ≤ (σ_138 br 1).toInt ∧ (σ_138 br 1).toInt ≤ 9 := by have z := hB.2.1 br mbr 1; rw [tbr] at z; exact z
          have w_151 : 0 ≤ (σ_138 br 2).toInt ∧ (σ_138 br 2).toInt ≤ 9 := by have z := hB.2.1 br mbr 2; rw [tbr] at z; exact z
          have w_152 : 0 ≤ (σ_138 br 3).toInt ∧ (σ_138 br 3).toInt ≤ 9 := by have z := hB.2.1 br mbr 3; rw [tbr] at z; exact z
          have w_153 : 0 ≤ (σ_138 br 4).toInt ∧ (σ_138 br 4).toInt ≤ 9 := by have z := hB.2.1 br mbr 4; rw [tbr] at z; exact z
          obtain ⟨lx_140, ux_140⟩ := g_141
          refine lv_istore_n (lv' := [(2, .int x_140), (3, .int x_38), (0, .ref h0), (1, .int p1)]) hx hb dX12_findsDownwards_165 rfl hl (by decide) rfl (fun ls hl => ?_)
          refine lv_goto (tgt := 82) hx hb dX12_findsDownwards_166 (by decide) ?_
          have k_154 : σ_138 ba 0 = (σ_12 ba 0) := (FR.at fσ_138 tba (by decide)).trans k_113
          have k_155 : σ_138 ba 1 = (σ_12 ba 1) := (FR.at fσ_138 tba (by decide)).trans k_118
          have k_156 : σ_138 ba 2 = (σ_12 ba 2) := (FR.at fσ_138 tba (by decide)).trans k_123
          have k_157 : σ_138 ba 3 = (σ_12 ba 3) := (FR.at fσ_138 tba (by decide)).trans k_128
          have k_158 : σ_138 ba 4 = (σ_12 ba 4) := (FR.at fσ_138 tba (by decide)).trans k_133
          exact ih_14 ⟨x_140, x_38, σ_138, ρ_139⟩ _ _ _ ⟨(by omega), (by omega), (by rw [k_154]; (first | omega | decide)), (by rw [k_155]; (first | omega | decide)), (by rw [k_156]; (first | omega | decide)), (by rw [k_157]; (first | omega | decide)), (by rw [k_158]; (first | omega | decide)), hB, hS, lv_sub hl [1, 0, 2, 3] rfl⟩ (by show (2 * (99999 - ((σ_138 br 0).toInt * 10000 + (σ_138 br 1).toInt * 1000 + (σ_138 br 2).toInt * 100 + (σ_138 br 3).toInt * 10 + (σ_138 br 4).toInt * 1)) + (x_140 : Int32).toInt).toNat < (2 * (99999 - ((σ_12 br 0).toInt * 10000 + (σ_12 br 1).toInt * 1000 + (σ_12 br 2).toInt * 100 + (σ_12 br 3).toInt * 10 + (σ_12 br 4).toInt * 1)) + (i_10 : Int32).toInt).toNat; omega)
        · skip
          have uc_104 := i_ne (n := 0) (by decide) c_104
          refine lv_aload_n hx hb dX12_findsDownwards_117 rfl (lv_at hl 2 rfl) ?_
          refine lv_iconst (v := 1) hx hb dX12_findsDownwards_118 (by decide) ?_
          refine t_ci (va_runV (As := [.int 1]) (rest := []) ⟨hx, hb, hml, hown, hts⟩ (cy_X12_rowSum l D cA L T r hG hLA.1 σ_12 ρ_102 hB.2.1 _ h0 mh0 th0 1 (by first | omega | decide) (by first | omega | decide)) (cV hts mv_X12_rowSum mw_8_18 rfl rfl ⟨Nat.le_of_ble_eq_true rfl, Nat.le_of_ble_eq_true rfl⟩) (pV hB.1 hK hN mh0 th0 (show shp cA 12 _ _ _ = .inr (12, Fs12 _ _ _) from rfl) rfl) rfl rfl hl.1 rfl (lv_room (Nat.le_of_ble_eq_true rfl)) dX12_findsDownwards_119 ⟨Nat.le_of_ble_eq_true rfl, Nat.le_of_ble_eq_true rfl⟩) hLA hA hB hS (by decide) (fun x_161 σ_159 ρ_160 H locs hB fσ_159 pσ_159 hS => ?_)
          have qσ_159 := FR.nil fσ_159
          subst qσ_159
          refine lv_istore (lv' := [(4, .int x_161), (3, .int x_38), (2, .int i_10), (0, .ref h0), (1, .int p1)]) hx hb dX12_findsDownwards_122 hl (by decide) rfl (fun ls hl => ?_)
          refine lv_iload hx hb dX12_findsDownwards_124 (lv_at hl 0 rfl) ?_
          refine lv_aload_n hx hb dX12_findsDownwards_126 rfl (lv_at hl 3 rfl) ?_
          refine t_gi hx hb hts hown hK hB mh0 th0 fi_12_30 rfl mw_6_6 dX12_findsDownwards_127 (fun x_162 ex_162 lx_162 ux_162 => ?_)
          have cx_162 := congrArg Int32.toInt ex_162
          refine lv_icmp_gt (tgt := 150) hx hb dX12_findsDownwards_130 (by decide) (fun c_163 => ?_) (fun c_163 => ?_)
          · skip
            have uc_163 := j_lt c_163
            refine lv_aload_n hx hb dX12_findsDownwards_150 rfl (lv_at hl 3 rfl) ?_
            refine lv_iload hx hb dX12_findsDownwards_151 (lv_at hl 0 rfl) ?_
            refine lv_iload_n hx hb dX12_findsDownwards_153 rfl (lv_at hl 1 rfl) ?_
            refine t_cv (va_runV (As := [.int x_161, .int x_38]) (rest := []) ⟨hx, hb, hml, hown, hts⟩ (cy_X12_keepsRow l D cA L T r hG hLA.1 σ_12 ρ_160 hB.2.1 _ h0 mh0 th0 x_161 x_38) (cV hts mv_X12_keepsRow mw_8_26 rfl rfl ⟨Nat.le_of_ble_eq_true rfl, Nat.le_of_ble_eq_true rfl⟩) (pV hB.1 hK hN mh0 th0 (show shp cA 12 _ _ _ = .inr (12, Fs12 _ _ _) from rfl) rfl) rfl rfl hl.1 rfl (lv_room (Nat.le_of_ble_eq_true rfl)) dX12_findsDownwards_154 ⟨Nat.le_of_ble_eq_true rfl, Nat.le_of_ble_eq_true rfl⟩) hLA hA hB hS (by decide) (fun σ_164 ρ_165 H locs hB fσ_164 pσ_164 hS => ?_)
            refine lv_aload_n hx hb dX12_findsDownwards_157 rfl (lv_at hl 3 rfl) ?_
            have k_167 : σ_164 ba 0 = (σ_12 ba 0) := (FR.at fσ_164 tba (by decide)).trans rfl
            have cq_168 : (σ_164 ba 0).toInt = (σ_12 ba 0).toInt := congrArg Int32.toInt k_167
            have k_169 : σ_164 ba 1 = (σ_12 ba 1) := (FR.at fσ_164 tba (by decide)).trans rfl
            have cq_170 : (σ_164 ba 1).toInt = (σ_12 ba 1).toInt := congrArg Int32.toInt k_169
            have k_171 : σ_164 ba 2 = (σ_12 ba 2) := (FR.at fσ_164 tba (by decide)).trans rfl
            have cq_172 : (σ_164 ba 2).toInt = (σ_12 ba 2).toInt := congrArg Int32.toInt k_171
            have k_173 : σ_164 ba 3 = (σ_12 ba 3) := (FR.at fσ_164 tba (by decide)).trans rfl
            have cq_174 : (σ_164 ba 3).toInt = (σ_12 ba 3).toInt := congrArg Int32.toInt k_173
            have k_175 : σ_164 ba 4 = (σ_12 ba 4) := (FR.at fσ_164 tba (by decide)).trans rfl
            have cq_176 : (σ_164 ba 4).toInt = (σ_12 ba 4).toInt := congrArg Int32.toInt k_175
            refine t_cv (va_runV (As := []) (rest := []) ⟨hx, hb, hml, hown, hts⟩ (cz_X12_mostAgain l D cA L T r hG hLA.1 σ_164 ρ_165 hB.2.1 _ h0 mh0 th0 ba hba mba tba bm hbm mbm tbm) (cV hts mv_X12_mostAgain mw_8_30 rfl rfl ⟨Nat.le_of_ble_eq_true rfl, Nat.le_of_ble_eq_true rfl⟩) (pV hB.1 hK hN mh0 th0 (show shp cA 12 _ _ _ = .inr (12, Fs12 _ _ _) from rfl) rfl) rfl rfl hl.1 rfl (lv_room (Nat.le_of_ble_eq_true rfl)) dX12_findsDownwards_158 ⟨Nat.le_of_ble_eq_true rfl, Nat.le_of_ble_eq_true rfl⟩) hLA hA hB hS (by decide) (fun σ_177 ρ_178 H locs hB fσ_177 pσ_177 hS => ?_)
            obtain ⟨g_180, g_181, g_182, g_183, g_184⟩ := pσ_177
            refine lv_aload_n hx hb dX12_findsDownwards_161 rfl (lv_at hl 3 rfl) ?_
            have k_185 : σ_177 ba 0 = (σ_12 ba 0) := (FR.at fσ_177 tba (by decide)).trans k_167
            have cq_186 := congrArg Int32.toInt k_185
            have cq_187 := congrArg Int32.toInt g_180
            have k_188 : σ_164 br 0 = (σ_12 br 0) := (FR.at fσ_164 tbr (by decide)).trans rfl
            have k_189 : σ_177 br 0 = (σ_12 br 0) := (FR.at fσ_177 tbr (by decide)).trans k_188
            have cq_190 := congrArg Int32.toInt k_189
            have k_191 : σ_177 ba 1 = (σ_12 ba 1) := (FR.at fσ_177 tba (by decide)).trans k_169
            have cq_192 := congrArg Int32.toInt k_191
            have cq_193 := congrArg Int32.toInt g_181
            have k_194 : σ_164 br 1 = (σ_12 br 1) := (FR.at fσ_164 tbr (by decide)).trans rfl
            have k_195 : σ_177 br 1 = (σ_12 br 1) := (FR.at fσ_177 tbr (by decide)).trans k_194
            have cq_196 := congrArg Int32.toInt k_195
            have k_197 : σ_177 ba 2 = (σ_12 ba 2) := (FR.at fσ_177 tba (by decide)).trans k_171
            have cq_198 := congrArg Int32.toInt k_197
            have cq_199 := congrArg Int32.toInt g_182
            have k_200 : σ_164 br 2 = (σ_12 br 2) := (FR.at fσ_164 tbr (by decide)).trans rfl
            have k_201 : σ_177 br 2 = (σ_12 br 2) := (FR.at fσ_177 tbr (by decide)).trans k_200
            have cq_202 := congrArg Int32.toInt k_201
            have k_203 : σ_177 ba 3 = (σ_12 ba 3) := (FR.at fσ_177 tba (by decide)).trans k_173
            have cq_204 := congrArg Int32.toInt k_203
            have cq_205 := congrArg Int32.toInt g_183
            have k_206 : σ_164 br 3 = (σ_12 br 3) := (FR.at fσ_164 tbr (by decide)).trans rfl
            have k_207 : σ_177 br 3 = (σ_12 br 3) := (FR.at fσ_177 tbr (by decide)).trans k_206
            have cq_208 := congrArg Int32.toInt k_207
            have k_209 : σ_177 ba 4 = (σ_12 ba 4) := (FR.at fσ_177 tba (by decide)).trans k_175
            have cq_210 := congrArg Int32.toInt k_209
            have cq_211 := congrArg Int32.toInt g_184
            have k_212 : σ_164 br 4 = (σ_12 br 4) := (FR.at fσ_164 tbr (by decide)).trans rfl
            have k_213 : σ_177 br 4 = (σ_12 br 4) := (FR.at fσ_177 tbr (by decide)).trans k_212
            have cq_214 := congrArg Int32.toInt k_213
            refine t_ci (va_runV (As := []) (rest := []) ⟨hx, hb, hml, hown, hts⟩ (cz_X12_hasNextRow l D cA L T r hG hLA.1 σ_177 ρ_178 hB.2.1 _ h0 mh0 th0 br hbr mbr tbr bm hbm mbm tbm (by rw [k_189, g_180]; omega) (by rw [k_195, g_181]; omega) (by rw [k_201, g_182]; omega) (by rw [k_207, g_183]; omega) (by rw [k_213, g_184]; omega)) (cV hts mv_X12_hasNextRow mw_8_34 rfl rfl ⟨Nat.le_of_ble_eq_true rfl, Nat.le_of_ble_eq_true rfl⟩) (pV hB.1 hK hN mh0 th0 (show shp cA 12 _ _ _ = .inr (12, Fs12 _ _ _) from rfl) rfl) rfl rfl hl.1 rfl (lv_room (Nat.le_of_ble_eq_true rfl)) dX12_findsDownwards_162 ⟨Nat.le_of_ble_eq_true rfl, Nat.le_of_ble_eq_true rfl⟩) hLA hA hB hS (by decide) (fun x_217 σ_215 ρ_216 H locs hB fσ_215 pσ_215 hS => ?_)
            obtain ⟨g_218, g_219, g_220, g_221, g_222, g_223, g_224, g_225⟩ := pσ_215
            have w_226 : 0 ≤ (σ_215 br 0).toInt ∧ (σ_215 br 0).toInt ≤ 9 := by have z := hB.2.1 br mbr 0; rw [tbr] at z; exact z
            have w_227 : 0 ≤ (σ_215 br 1).toInt ∧ (σ_215 br 1).toInt ≤ 9 := by have z := hB.2.1 br mbr 1; rw [tbr] at z; exact z
            have w_228 : 0 ≤ (σ_215 br 2).toInt ∧ (σ_215 br 2).toInt ≤ 9 := by have z := hB.2.1 br mbr 2; rw [tbr] at z; exact z
            have w_229 : 0 ≤ (σ_215 br 3).toInt ∧ (σ_215 br 3).toInt ≤ 9 := by have z := hB.2.1 br mbr 3; rw [tbr] at z; exact z
            have w_230 : 0 ≤ (σ_215 br 4).toInt ∧ (σ_215 br 4).toInt ≤ 9 := by have z := hB.2.1 br mbr 4; rw [tbr] at z; exact z
            obtain ⟨lx_217, ux_217⟩ := g_218
            refine lv_istore_n (lv' := [(2, .int x_217), (4, .int x_161), (3, .int x_38), (0, .ref h0), (1, .int p1)]) hx hb dX12_findsDownwards_165 rfl hl (by decide) rfl (fun ls hl => ?_)
            refine lv_goto (tgt := 82) hx hb dX12_findsDownwards_166 (by decide) ?_
            have k_231 : σ_215 ba 0 = (σ_12 ba 0) := (FR.at fσ_215 tba (by decide)).trans k_185
            have k_232 : σ_215 ba 1 = (σ_12 ba 1) := (FR.at fσ_215 tba (by decide)).trans k_191
            have k_233 : σ_215 ba 2 = (σ_12 ba 2) := (FR.at fσ_215 tba (by decide)).trans k_197
            have k_234 : σ_215 ba 3 = (σ_12 ba 3) := (FR.at fσ_215 tba (by decide)).trans k_203
            have k_235 : σ_215 ba 4 = (σ_12 ba 4) := (FR.at fσ_215 tba (by decide)).trans k_209
            exact ih_14 ⟨x_217, x_38, σ_215, ρ_216⟩ _ _ _ ⟨(by omega), (by omega), (by rw [k_231]; (first | omega | decide)), (by rw [k_232]; (first | omega | decide)), (by rw [k_233]; (first | omega | decide)), (by rw [k_234]; (first | omega | decide)), (by rw [k_235]; (first | omega | decide)), hB, hS, lv_sub hl [2, 0, 3, 4] rfl⟩ (by show (2 * (99999 - ((σ_215 br 0).toInt * 10000 + (σ_215 br 1).toInt * 1000 + (σ_215 br 2).toInt * 100 + (σ_215 br 3).toInt * 10 + (σ_215 br 4).toInt * 1)) + (x_217 : Int32).toInt).toNat < (2 * (99999 - ((σ_12 br 0).toInt * 10000 + (σ_12 br 1).toInt * 1000 + (σ_12 br 2).toInt * 100 + (σ_12 br 3).toInt * 10 + (σ_12 br 4).toInt * 1)) + (i_10 : Int32).toInt).toNat; omega)
          · skip
            have uc_163 := j_nlt c_163
            refine lv_iload hx hb dX12_findsDownwards_133 (lv_at hl 0 rfl) ?_
            refine lv_aload_n hx hb dX12_findsDownwards_135 rfl (lv_at hl 3 rfl) ?_
            refine t_gv hx hb hts hown hK hB mh0 th0 fi_12_30 ex_162.symm mw_6_6 dX12_findsDownwards_136 ?_
            refine lv_icmp_ne (tgt := 157) hx hb dX12_findsDownwards_139 (by decide) (fun c_236 => ?_) (fun c_236 => ?_)
            · skip
              have uc_236 := j_ne c_236
              refine lv_aload_n hx hb dX12_findsDownwards_157 rfl (lv_at hl 3 rfl) ?_
              refine t_cv (va_runV (As := []) (rest := []) ⟨hx, hb, hml, hown, hts⟩ (cz_X12_mostAgain l D cA L T r hG hLA.1 σ_12 ρ_160 hB.2.1 _ h0 mh0 th0 ba hba mba tba bm hbm mbm tbm) (cV hts mv_X12_mostAgain mw_8_30 rfl rfl ⟨Nat.le_of_ble_eq_true rfl, Nat.le_of_ble_eq_true rfl⟩) (pV hB.1 hK hN mh0 th0 (show shp cA 12 _ _ _ = .inr (12, Fs12 _ _ _) from rfl) rfl) rfl rfl hl.1 rfl (lv_room (Nat.le_of_ble_eq_true rfl)) dX12_findsDownwards_158 ⟨Nat.le_of_ble_eq_true rfl, Nat.le_of_ble_eq_true rfl⟩) hLA hA hB hS (by decide) (fun σ_237 ρ_238 H locs hB fσ_237 pσ_237 hS => ?_)
              obtain ⟨g_240, g_241, g_242, g_243, g_244⟩ := pσ_237
              refine lv_aload_n hx hb dX12_findsDownwards_161 rfl (lv_at hl 3 rfl) ?_
              have k_245 : σ_237 ba 0 = (σ_12 ba 0) := (FR.at fσ_237 tba (by decide)).trans rfl
              have cq_246 := congrArg Int32.toInt k_245
              have cq_247 := congrArg Int32.toInt g_240
              have k_248 : σ_237 br 0 = (σ_12 br 0) := (FR.at fσ_237 tbr (by decide)).trans rfl
              have cq_249 := congrArg Int32.toInt k_248
              have k_250 : σ_237 ba 1 = (σ_12 ba 1) := (FR.at fσ_237 tba (by decide)).trans rfl
              have cq_251 := congrArg Int32.toInt k_250
              have cq_252 := congrArg Int32.toInt g_241
              have k_253 : σ_237 br 1 = (σ_12 br 1) := (FR.at fσ_237 tbr (by decide)).trans rfl
              have cq_254 := congrArg Int32.toInt k_253
              have k_255 : σ_237 ba 2 = (σ_12 ba 2) := (FR.at fσ_237 tba (by decide)).trans rfl
              have cq_256 := congrArg Int32.toInt k_255
              have cq_257 := congrArg Int32.toInt g_242
              have k_258 : σ_237 br 2 = (σ_12 br 2) := (FR.at fσ_237 tbr (by decide)).trans rfl
              have cq_259 := congrArg Int32.toInt k_258
              have k_260 : σ_237 ba 3 = (σ_12 ba 3) := (FR.at fσ_237 tba (by decide)).trans rfl
              have cq_261 := congrArg Int32.toInt k_260
              have cq_262 := congrArg Int32.toInt g_243
              have k_263 : σ_237 br 3 = (σ_12 br 3) := (FR.at fσ_237 tbr (by decide)).trans rfl
              have cq_264 := congrArg Int32.toInt k_263
              have k_265 : σ_237 ba 4 = (σ_12 ba 4) := (FR.at fσ_237 tba (by decide)).trans rfl
              have cq_266 := congrArg Int32.toInt k_265
              have cq_267 := congrArg Int32.toInt g_244
              have k_268 : σ_237 br 4 = (σ_12 br 4) := (FR.at fσ_237 tbr (by decide)).trans rfl
              have cq_269 := congrArg Int32.toInt k_268
              refine t_ci (va_runV (As := []) (rest := []) ⟨hx, hb, hml, hown, hts⟩ (cz_X12_hasNextRow l D cA L T r hG hLA.1 σ_237 ρ_238 hB.2.1 _ h0 mh0 th0 br hbr mbr tbr bm hbm mbm tbm (by rw [k_248, g_240]; omega) (by rw [k_253, g_241]; omega) (by rw [k_258, g_242]; omega) (by rw [k_263, g_243]; omega) (by rw [k_268, g_244]; omega)) (cV hts mv_X12_hasNextRow mw_8_34 rfl rfl ⟨Nat.le_of_ble_eq_true rfl, Nat.le_of_ble_eq_true rfl⟩) (pV hB.1 hK hN mh0 th0 (show shp cA 12 _ _ _ = .inr (12, Fs12 _ _ _) from rfl) rfl) rfl rfl hl.1 rfl (lv_room (Nat.le_of_ble_eq_true rfl)) dX12_findsDownwards_162 ⟨Nat.le_of_ble_eq_true rfl, Nat.le_of_ble_eq_true rfl⟩) hLA hA hB hS (by decide) (fun x_272 σ_270 ρ_271 H locs hB fσ_270 pσ_270 hS => ?_)
              obtain ⟨g_273, g_274, g_275, g_276, g_277, g_278, g_279, g_280⟩ := pσ_270
              have w_281 : 0 ≤ (σ_270 br 0).toInt ∧ (σ_270 br 0).toInt ≤ 9 := by have z := hB.2.1 br mbr 0; rw [tbr] at z; exact z
              have w_282 : 0 ≤ (σ_270 br 1).toInt ∧ (σ_270 br 1).toInt ≤ 9 := by have z := hB.2.1 br mbr 1; rw [tbr] at z; exact z
              have w_283 : 0 ≤ (σ_270 br 2).toInt ∧ (σ_270 br 2).toInt ≤ 9 := by have z := hB.2.1 br mbr 2; rw [tbr] at z; exact z
              have w_284 : 0 ≤ (σ_270 br 3).toInt ∧ (σ_270 br 3).toInt ≤ 9 := by have z := hB.2.1 br mbr 3; rw [tbr] at z; exact z
              have w_285 : 0 ≤ (σ_270 br 4).toInt ∧ (σ_270 br 4).toInt ≤ 9 := by have z := hB.2.1 br mbr 4; rw [tbr] at z; exact z
              obtain ⟨lx_272, ux_272⟩ := g_273
              refine lv_istore_n (lv' := [(2, .int x_272), (4, .int x_161), (3, .int x_38), (0, .ref h0), (1, .int p1)]) hx hb dX12_findsDownwards_165 rfl hl (by decide) rfl (fun ls hl => ?_)
              refine lv_goto (tgt := 82) hx hb dX12_findsDownwards_166 (by decide) ?_
              have k_286 : σ_270 ba 0 = (σ_12 ba 0) := (FR.at fσ_270 tba (by decide)).trans k_245
              have k_287 : σ_270 ba 1 = (σ_12 ba 1) := (FR.at fσ_270 tba (by decide)).trans k_250
              have k_288 : σ_270 ba 2 = (σ_12 ba 2) := (FR.at fσ_270 tba (by decide)).trans k_255
              have k_289 : σ_270 ba 3 = (σ_12 ba 3) := (FR.at fσ_270 tba (by decide)).trans k_260
              have k_290 : σ_270 ba 4 = (σ_12 ba 4) := (FR.at fσ_270 tba (by decide)).trans k_265
              exact ih_14 ⟨x_272, x_38, σ_270, ρ_271⟩ _ _ _ ⟨(by omega), (by omega), (by rw [k_286]; (first | omega | decide)), (by rw [k_287]; (first | omega | decide)), (by rw [k_288]; (first | omega | decide)), (by rw [k_289]; (first | omega | decide)), (by rw [k_290]; (first | omega | decide)), hB, hS, lv_sub hl [2, 0, 3, 4] rfl⟩ (by show (2 * (99999 - ((σ_270 br 0).toInt * 10000 + (σ_270 br 1).toInt * 1000 + (σ_270 br 2).toInt * 100 + (σ_270 br 3).toInt * 10 + (σ_270 br 4).toInt * 1)) + (x_272 : Int32).toInt).toNat < (2 * (99999 - ((σ_12 br 0).toInt * 10000 + (σ_12 br 1).toInt * 1000 + (σ_12 br 2).toInt * 100 + (σ_12 br 3).toInt * 10 + (σ_12 br 4).toInt * 1)) + (i_10 : Int32).toInt).toNat; omega)
            · skip
              have uc_236 := j_eq c_236
              refine lv_iload_n hx hb dX12_findsDownwards_142 rfl (lv_at hl 1 rfl) ?_
              refine lv_aload_n hx hb dX12_findsDownwards_143 rfl (lv_at hl 3 rfl) ?_
              refine t_gi hx hb hts hown hK hB mh0 th0 fi_12_31 rfl mw_6_7 dX12_findsDownwards_144 (fun x_291 ex_291 lx_291 ux_291 => ?_)
              have cx_291 := congrArg Int32.toInt ex_291
              refine lv_icmp_ge (tgt := 157) hx hb dX12_findsDownwards_147 (by decide) (fun c_292 => ?_) (fun c_292 => ?_)
              · skip
                have uc_292 := j_le c_292
                refine lv_aload_n hx hb dX12_findsDownwards_157 rfl (lv_at hl 3 rfl) ?_
                refine t_cv (va_runV (As := []) (rest := []) ⟨hx, hb, hml, hown, hts⟩ (cz_X12_mostAgain l D cA L T r hG hLA.1 σ_12 ρ_160 hB.2.1 _ h0 mh0 th0 ba hba mba tba bm hbm mbm tbm) (cV hts mv_X12_mostAgain mw_8_30 rfl rfl ⟨Nat.le_of_ble_eq_true rfl, Nat.le_of_ble_eq_true rfl⟩) (pV hB.1 hK hN mh0 th0 (show shp cA 12 _ _ _ = .inr (12, Fs12 _ _ _) from rfl) rfl) rfl rfl hl.1 rfl (lv_room (Nat.le_of_ble_eq_true rfl)) dX12_findsDownwards_158 ⟨Nat.le_of_ble_eq_true rfl, Nat.le_of_ble_eq_true rfl⟩) hLA hA hB hS (by decide) (fun σ_293 ρ_294 H locs hB fσ_293 pσ_293 hS => ?_)
                obtain ⟨g_296, g_297, g_298, g_299, g_300⟩ := pσ_293
                refine lv_aload_n hx hb dX12_findsDownwards_161 rfl (lv_at hl 3 rfl) ?_
                have k_301 : σ_293 ba 0 = (σ_12 ba 0) := (FR.at fσ_293 tba (by decide)).trans rfl
                have cq_302 := congrArg Int32.toInt k_301
                have cq_303 := congrArg Int32.toInt g_296
                have k_304 : σ_293 br 0 = (σ_12 br 0) := (FR.at fσ_293 tbr (by decide)).trans rfl
                have cq_305 := congrArg Int32.toInt k_304
                have k_306 : σ_293 ba 1 = (σ_12 ba 1) := (FR.at fσ_293 tba (by decide)).trans rfl
                have cq_307 := congrArg Int32.toInt k_306
                have cq_308 := congrArg Int32.toInt g_297
                have k_309 : σ_293 br 1 = (σ_12 br 1) := (FR.at fσ_293 tbr (by decide)).trans rfl
                have cq_310 := congrArg Int32.toInt k_309
                have k_311 : σ_293 ba 2 = (σ_12 ba 2) := (FR.at fσ_293 tba (by decide)).trans rfl
                have cq_312 := congrArg Int32.toInt k_311
                have cq_313 := congrArg Int32.toInt g_298
                have k_314 : σ_293 br 2 = (σ_12 br 2) := (FR.at fσ_293 tbr (by decide)).trans rfl
                have cq_315 := congrArg Int32.toInt k_314
                have k_316 : σ_293 ba 3 = (σ_12 ba 3) := (FR.at fσ_293 tba (by decide)).trans rfl
                have cq_317 := congrArg Int32.toInt k_316
                have cq_318 := congrArg Int32.toInt g_299
                have k_319 : σ_293 br 3 = (σ_12 br 3) := (FR.at fσ_293 tbr (by decide)).trans rfl
                have cq_320 := congrArg Int32.toInt k_319
                have k_321 : σ_293 ba 4 = (σ_12 ba 4) := (FR.at fσ_293 tba (by decide)).trans rfl
                have cq_322 := congrArg Int32.toInt k_321
                have cq_323 := congrArg Int32.toInt g_300
                have k_324 : σ_293 br 4 = (σ_12 br 4) := (FR.at fσ_293 tbr (by decide)).trans rfl
                have cq_325 := congrArg Int32.toInt k_324
                refine t_ci (va_runV (As := []) (rest := []) ⟨hx, hb, hml, hown, hts⟩ (cz_X12_hasNextRow l D cA L T r hG hLA.1 σ_293 ρ_294 hB.2.1 _ h0 mh0 th0 br hbr mbr tbr bm hbm mbm tbm (by rw [k_304, g_296]; omega) (by rw [k_309, g_297]; omega) (by rw [k_314, g_298]; omega) (by rw [k_319, g_299]; omega) (by rw [k_324, g_300]; omega)) (cV hts mv_X12_hasNextRow mw_8_34 rfl rfl ⟨Nat.le_of_ble_eq_true rfl, Nat.le_of_ble_eq_true rfl⟩) (pV hB.1 hK hN mh0 th0 (show shp cA 12 _ _ _ = .inr (12, Fs12 _ _ _) from rfl) rfl) rfl rfl hl.1 rfl (lv_room (Nat.le_of_ble_eq_true rfl)) dX12_findsDownwards_162 ⟨Nat.le_of_ble_eq_true rfl, Nat.le_of_ble_eq_true rfl⟩) hLA hA hB hS (by decide) (fun x_328 σ_326 ρ_327 H locs hB fσ_326 pσ_326 hS => ?_)
                obtain ⟨g_329, g_330, g_331, g_332, g_333, g_334, g_335, g_336⟩ := pσ_326
                have w_337 : 0 ≤ (σ_326 br 0).toInt ∧ (σ_326 br 0).toInt ≤ 9 := by have z := hB.2.1 br mbr 0; rw [tbr] at z; exact z
                have w_338 : 0 ≤ (σ_326 br 1).toInt ∧ (σ_326 br 1).toInt ≤ 9 := by have z := hB.2.1 br mbr 1; rw [tbr] at z; exact z
                have w_339 : 0 ≤ (σ_326 br 2).toInt ∧ (σ_326 br 2).toInt ≤ 9 := by have z := hB.2.1 br mbr 2; rw [tbr] at z; exact z
                have w_340 : 0 ≤ (σ_326 br 3).toInt ∧ (σ_326 br 3).toInt ≤ 9 := by have z := hB.2.1 br mbr 3; rw [tbr] at z; exact z
                have w_341 : 0 ≤ (σ_326 br 4).toInt ∧ (σ_326 br 4).toInt ≤ 9 := by have z := hB.2.1 br mbr 4; rw [tbr] at z; exact z
                obtain ⟨lx_328, ux_328⟩ := g_329
                refine lv_istore_n (lv' := [(2, .int x_328), (4, .int x_161), (3, .int x_38), (0, .ref h0), (1, .int p1)]) hx hb dX12_findsDownwards_165 rfl hl (by decide) rfl (fun ls hl => ?_)
                refine lv_goto (tgt := 82) hx hb dX12_findsDownwards_166 (by decide) ?_
                have k_342 : σ_326 ba 0 = (σ_12 ba 0) := (FR.at fσ_326 tba (by decide)).trans k_301
                have k_343 : σ_326 ba 1 = (σ_12 ba 1) := (FR.at fσ_326 tba (by decide)).trans k_306
                have k_344 : σ_326 ba 2 = (σ_12 ba 2) := (FR.at fσ_326 tba (by decide)).trans k_311
                have k_345 : σ_326 ba 3 = (σ_12 ba 3) := (FR.at fσ_326 tba (by decide)).trans k_316
                have k_346 : σ_326 ba 4 = (σ_12 ba 4) := (FR.at fσ_326 tba (by decide)).trans k_321
                exact ih_14 ⟨x_328, x_38, σ_326, ρ_327⟩ _ _ _ ⟨(by omega), (by omega), (by rw [k_342]; (first | omega | decide)), (by rw [k_343]; (first | omega | decide)), (by rw [k_344]; (first | omega | decide)), (by rw [k_345]; (first | omega | decide)), (by rw [k_346]; (first | omega | decide)), hB, hS, lv_sub hl [2, 0, 3, 4] rfl⟩ (by show (2 * (99999 - ((σ_326 br 0).toInt * 10000 + (σ_326 br 1).toInt * 1000 + (σ_326 br 2).toInt * 100 + (σ_326 br 3).toInt * 10 + (σ_326 br 4).toInt * 1)) + (x_328 : Int32).toInt).toNat < (2 * (99999 - ((σ_12 br 0).toInt * 10000 + (σ_12 br 1).toInt * 1000 + (σ_12 br 2).toInt * 100 + (σ_12 br 3).toInt * 10 + (σ_12 br 4).toInt * 1)) + (i_10 : Int32).toInt).toNat; omega)
              · skip
                have uc_292 := j_nle c_292
                refine lv_aload_n hx hb dX12_findsDownwards_150 rfl (lv_at hl 3 rfl) ?_
                refine lv_iload hx hb dX12_findsDownwards_151 (lv_at hl 0 rfl) ?_
                refine lv_iload_n hx hb dX12_findsDownwards_153 rfl (lv_at hl 1 rfl) ?_
                refine t_cv (va_runV (As := [.int x_161, .int x_38]) (rest := []) ⟨hx, hb, hml, hown, hts⟩ (cy_X12_keepsRow l D cA L T r hG hLA.1 σ_12 ρ_160 hB.2.1 _ h0 mh0 th0 x_161 x_38) (cV hts mv_X12_keepsRow mw_8_26 rfl rfl ⟨Nat.le_of_ble_eq_true rfl, Nat.le_of_ble_eq_true rfl⟩) (pV hB.1 hK hN mh0 th0 (show shp cA 12 _ _ _ = .inr (12, Fs12 _ _ _) from rfl) rfl) rfl rfl hl.1 rfl (lv_room (Nat.le_of_ble_eq_true rfl)) dX12_findsDownwards_154 ⟨Nat.le_of_ble_eq_true rfl, Nat.le_of_ble_eq_true rfl⟩) hLA hA hB hS (by decide) (fun σ_347 ρ_348 H locs hB fσ_347 pσ_347 hS => ?_)
                refine lv_aload_n hx hb dX12_findsDownwards_157 rfl (lv_at hl 3 rfl) ?_
                have k_350 : σ_347 ba 0 = (σ_12 ba 0) := (FR.at fσ_347 tba (by decide)).trans rfl
                have cq_351 : (σ_347 ba 0).toInt = (σ_12 ba 0).toInt := congrArg Int32.toInt k_350
                have k_352 : σ_347 ba 1 = (σ_12 ba 1) := (FR.at fσ_347 tba (by decide)).trans rfl
                have cq_353 : (σ_347 ba 1).toInt = (σ_12 ba 1).toInt := congrArg Int32.toInt k_352
                have k_354 : σ_347 ba 2 = (σ_12 ba 2) := (FR.at fσ_347 tba (by decide)).trans rfl
                have cq_355 : (σ_347 ba 2).toInt = (σ_12 ba 2).toInt := congrArg Int32.toInt k_354
                have k_356 : σ_347 ba 3 = (σ_12 ba 3) := (FR.at fσ_347 tba (by decide)).trans rfl
                have cq_357 : (σ_347 ba 3).toInt = (σ_12 ba 3).toInt := congrArg Int32.toInt k_356
                have k_358 : σ_347 ba 4 = (σ_12 ba 4) := (FR.at fσ_347 tba (by decide)).trans rfl
                have cq_359 : (σ_347 ba 4).toInt = (σ_12 ba 4).toInt := congrArg Int32.toInt k_358
                refine t_cv (va_runV (As := []) (rest := []) ⟨hx, hb, hml, hown, hts⟩ (cz_X12_mostAgain l D cA L T r hG hLA.1 σ_347 ρ_348 hB.2.1 _ h0 mh0 th0 ba hba mba tba bm hbm mbm tbm) (cV hts mv_X12_mostAgain mw_8_30 rfl rfl ⟨Nat.le_of_ble_eq_true rfl, Nat.le_of_ble_eq_true rfl⟩) (pV hB.1 hK hN mh0 th0 (show shp cA 12 _ _ _ = .inr (12, Fs12 _ _ _) from rfl) rfl) rfl rfl hl.1 rfl (lv_room (Nat.le_of_ble_eq_true rfl)) dX12_findsDownwards_158 ⟨Nat.le_of_ble_eq_true rfl, Nat.le_of_ble_eq_true rfl⟩) hLA hA hB hS (by decide) (fun σ_360 ρ_361 H locs hB fσ_360 pσ_360 hS => ?_)
                obtain ⟨g_363, g_364, g_365, g_366, g_367⟩ := pσ_360
                refine lv_aload_n hx hb dX12_findsDownwards_161 rfl (lv_at hl 3 rfl) ?_
                have k_368 : σ_360 ba 0 = (σ_12 ba 0) := (FR.at fσ_360 tba (by decide)).trans k_350
                have cq_369 := congrArg Int32.toInt k_368
                have cq_370 := congrArg Int32.toInt g_363
                have k_371 : σ_347 br 0 = (σ_12 br 0) := (FR.at fσ_347 tbr (by decide)).trans rfl
                have k_372 : σ_360 br 0 = (σ_12 br 0) := (FR.at fσ_360 tbr (by decide)).trans k_371
                have cq_373 := congrArg Int32.toInt k_372
                have k_374 : σ_360 ba 1 = (σ_12 ba 1) := (FR.at fσ_360 tba (by decide)).trans k_352
                have cq_375 := congrArg Int32.toInt k_374
                have cq_376 := congrArg Int32.toInt g_364
                have k_377 : σ_347 br 1 = (σ_12 br 1) := (FR.at fσ_347 tbr (by decide)).trans rfl
                have k_378 : σ_360 br 1 = (σ_12 br 1) := (FR.at fσ_360 tbr (by decide)).trans k_377
                have cq_379 := congrArg Int32.toInt k_378
                have k_380 : σ_360 ba 2 = (σ_12 ba 2) := (FR.at fσ_360 tba (by decide)).trans k_354
                have cq_381 := congrArg Int32.toInt k_380
                have cq_382 := congrArg Int32.toInt g_365
                have k_383 : σ_347 br 2 = (σ_12 br 2) := (FR.at fσ_347 tbr (by decide)).trans rfl
                have k_384 : σ_360 br 2 = (σ_12 br 2) := (FR.at fσ_360 tbr (by decide)).trans k_383
                have cq_385 := congrArg Int32.toInt k_384
                have k_386 : σ_360 ba 3 = (σ_12 ba 3) := (FR.at fσ_360 tba (by decide)).trans k_356
                have cq_387 := congrArg Int32.toInt k_386
                have cq_388 := congrArg Int32.toInt g_366
                have k_389 : σ_347 br 3 = (σ_12 br 3) := (FR.at fσ_347 tbr (by decide)).trans rfl
                have k_390 : σ_360 br 3 = (σ_12 br 3) := (FR.at fσ_360 tbr (by decide)).trans k_389
                have cq_391 := congrArg Int32.toInt k_390
                have k_392 : σ_360 ba 4 = (σ_12 ba 4) := (FR.at fσ_360 tba (by decide)).trans k_358
                have cq_393 := congrArg Int32.toInt k_392
                have cq_394 := congrArg Int32.toInt g_367
                have k_395 : σ_347 br 4 = (σ_12 br 4) := (FR.at fσ_347 tbr (by decide)).trans rfl
                have k_396 : σ_360 br 4 = (σ_12 br 4) := (FR.at fσ_360 tbr (by decide)).trans k_395
                have cq_397 := congrArg Int32.toInt k_396
                refine t_ci (va_runV (As := []) (rest := []) ⟨hx, hb, hml, hown, hts⟩ (cz_X12_hasNextRow l D cA L T r hG hLA.1 σ_360 ρ_361 hB.2.1 _ h0 mh0 th0 br hbr mbr tbr bm hbm mbm tbm (by rw [k_372, g_363]; omega) (by rw [k_378, g_364]; omega) (by rw [k_384, g_365]; omega) (by rw [k_390, g_366]; omega) (by rw [k_396, g_367]; omega)) (cV hts mv_X12_hasNextRow mw_8_34 rfl rfl ⟨Nat.le_of_ble_eq_true rfl, Nat.le_of_ble_eq_true rfl⟩) (pV hB.1 hK hN mh0 th0 (show shp cA 12 _ _ _ = .inr (12, Fs12 _ _ _) from rfl) rfl) rfl rfl hl.1 rfl (lv_room (Nat.le_of_ble_eq_true rfl)) dX12_findsDownwards_162 ⟨Nat.le_of_ble_eq_true rfl, Nat.le_of_ble_eq_true rfl⟩) hLA hA hB hS (by decide) (fun x_400 σ_398 ρ_399 H locs hB fσ_398 pσ_398 hS => ?_)
                obtain ⟨g_401, g_402, g_403, g_404, g_405, g_406, g_407, g_408⟩ := pσ_398
                have w_409 : 0 ≤ (σ_398 br 0).toInt ∧ (σ_398 br 0).toInt ≤ 9 := by have z := hB.2.1 br mbr 0; rw [tbr] at z; exact z
                have w_410 : 0 ≤ (σ_398 br 1).toInt ∧ (σ_398 br 1).toInt ≤ 9 := by have z := hB.2.1 br mbr 1; rw [tbr] at z; exact z
                have w_411 : 0 ≤ (σ_398 br 2).toInt ∧ (σ_398 br 2).toInt ≤ 9 := by have z := hB.2.1 br mbr 2; rw [tbr] at z; exact z
                have w_412 : 0 ≤ (σ_398 br 3).toInt ∧ (σ_398 br 3).toInt ≤ 9 := by have z := hB.2.1 br mbr 3; rw [tbr] at z; exact z
                have w_413 : 0 ≤ (σ_398 br 4).toInt ∧ (σ_398 br 4).toInt ≤ 9 := by have z := hB.2.1 br mbr 4; rw [tbr] at z; exact z
                obtain ⟨lx_400, ux_400⟩ := g_401
                refine lv_istore_n (lv' := [(2, .int x_400), (4, .int x_161), (3, .int x_38), (0, .ref h0), (1, .int p1)]) hx hb dX12_findsDownwards_165 rfl hl (by decide) rfl (fun ls hl => ?_)
                refine lv_goto (tgt := 82) hx hb dX12_findsDownwards_166 (by decide) ?_
                have k_414 : σ_398 ba 0 = (σ_12 ba 0) := (FR.at fσ_398 tba (by decide)).trans k_368
                have k_415 : σ_398 ba 1 = (σ_12 ba 1) := (FR.at fσ_398 tba (by decide)).trans k_374
                have k_416 : σ_398 ba 2 = (σ_12 ba 2) := (FR.at fσ_398 tba (by decide)).trans k_380
                have k_417 : σ_398 ba 3 = (σ_12 ba 3) := (FR.at fσ_398 tba (by decide)).trans k_386
                have k_418 : σ_398 ba 4 = (σ_12 ba 4) := (FR.at fσ_398 tba (by decide)).trans k_392
                exact ih_14 ⟨x_400, x_38, σ_398, ρ_399⟩ _ _ _ ⟨(by omega), (by omega), (by rw [k_414]; (first | omega | decide)), (by rw [k_415]; (first | omega | decide)), (by rw [k_416]; (first | omega | decide)), (by rw [k_417]; (first | omega | decide)), (by rw [k_418]; (first | omega | decide)), hB, hS, lv_sub hl [2, 0, 3, 4] rfl⟩ (by show (2 * (99999 - ((σ_398 br 0).toInt * 10000 + (σ_398 br 1).toInt * 1000 + (σ_398 br 2).toInt * 100 + (σ_398 br 3).toInt * 10 + (σ_398 br 4).toInt * 1)) + (x_400 : Int32).toInt).toNat < (2 * (99999 - ((σ_12 br 0).toInt * 10000 + (σ_12 br 1).toInt * 1000 + (σ_12 br 2).toInt * 100 + (σ_12 br 3).toInt * 10 + (σ_12 br 4).toInt * 1)) + (i_10 : Int32).toInt).toNat; omega)
  · skip
    have uc_9 := i_nge (n := 5) (by decide) c_9
    refine lv_aload_n hx hb dX12_findsDownwards_14 rfl (lv_at hl 2 rfl) ?_
    refine t_gk hx hb hts hown hK hB mh0 th0 fq_12_28 hbr mw_6_4 dX12_findsDownwards_15 ?_
    refine lv_iload_n hx hb dX12_findsDownwards_18 rfl (lv_at hl 0 rfl) ?_
    refine lv_iconst (v := 0) hx hb dX12_findsDownwards_19 (by decide) ?_
    refine t_si hx hb hK hLA hB hS mbr tbr ai_75 (i_in (by omega) (by omega)) (show 0 ≤ (0 : Int32).toInt by decide) (show (0 : Int32).toInt ≤ 9 by decide) (Or.inr (by decide)) dX12_findsDownwards_20 (fun H locs σ_419 eσ_419 hB hS => ?_)
    have k_420 : σ_419 br i_3.toNatClampNeg = 0 := by rw [eσ_419]; exact up2_same _ _ _ _
    refine lv_iconst (v := 0) hx hb dX12_findsDownwards_21 (by decide) ?_
    refine lv_istore (lv' := [(4, .int 0), (3, .int i_3), (2, .int 1), (0, .ref h0), (1, .int p1)]) hx hb dX12_findsDownwards_22 hl (by decide) rfl (fun ls hl => ?_)
    refine lv_iconst (v := 0) hx hb dX12_findsDownwards_24 (by decide) ?_
    refine lv_istore (lv' := [(5, .int 0), (4, .int 0), (3, .int i_3), (2, .int 1), (0, .ref h0), (1, .int p1)]) hx hb dX12_findsDownwards_25 hl (by decide) rfl (fun ls hl => ?_)
    have k_421 : σ_419 h0 30 = (-1) := by rw [eσ_419, up2_nea _ _ (tg_ne th0 tbr (by decide))]; exact k_7
    refine w_loop (α := Int32 × Int32 × Sg × Lg) (fun (i_422, i_423, σ_424, ρ_425) H locs ls => 0 ≤ i_422.toInt ∧ i_422.toInt ≤ 792 ∧ 0 ≤ i_423.toInt ∧ i_423.toInt ≤ 8 ∧ σ_424 h0 30 = (-1) ∧ (∀ j : Nat, j < i_3.toInt.toNat + 1 → σ_424 br j = 0) ∧ (i_422.toInt ≤ 99 * i_423.toInt) ∧ TS D cA L T r ry [(12, 30), (12, 31), (73, 1000), (75, 1000), (76, 1000), (77, 1000)] σ σ_424 ρ_425 H ∧ va_S (dm L s.heap.size) s.heap H locs ∧ lv_has ls 6 [(5, .int i_423), (4, .int i_422), (3, .int i_3), (2, .int 1), (0, .ref h0), (1, .int p1)]) (fun (i_422, i_423, σ_424, ρ_425) => (8 - i_423.toInt).toNat) ?_ ⟨0, 0, σ_419, ρ_5⟩ ⟨(by decide), (by decide), (by decide), (by decide), k_421, (fun j hj => by rw [eσ_419, up2_if]; by_cases e : j = i_3.toNatClampNeg; (rw [if_pos e]); (rw [if_neg e]; exact g_8 j (by have hn : i_3.toNatClampNeg = i_3.toInt.toNat := rfl; omega))), (by first | decide | omega), hB, hS, lv_sub hl [0, 1, 2, 3, 4, 5] rfl⟩
    rintro ⟨i_422, i_423, σ_424, ρ_425⟩ H locs ls ⟨li_422, ui_422, li_423, ui_423, k_427, g_428, g_429, hB, hS, hl⟩ ih_426
    refine lv_iload hx hb dX12_findsDownwards_27 (lv_at hl 0 rfl) ?_
    refine lv_aload_n hx hb dX12_findsDownwards_29 rfl (lv_at hl 4 rfl) ?_
    refine lv_iload_n hx hb dX12_findsDownwards_30 rfl (lv_at hl 5 rfl) ?_
    refine lv_iconst (v := 0) hx hb dX12_findsDownwards_31 (by decide) ?_
    obtain ⟨b_430, hb_430, mb_430, tb_430⟩ := hG h0 mh0 20 _ (by rw [th0]; rfl)
    refine t_ci (va_runV (As := [.int p1, .int 0]) (rest := [.int i_423]) ⟨hx, hb, hml, hown, hts⟩ (cy_X12_pilgrimOf_0x l D cA L T r hG hLA.1 σ_424 ρ_425 hB.2.1 _ h0 mh0 th0 p1 b_430 hb_430 mb_430 tb_430 (by first | omega | decide) (by first | omega | decide)) (cV hts mv_X12_pilgrimOf mw_7_69 rfl rfl ⟨Nat.le_of_ble_eq_true rfl, Nat.le_of_ble_eq_true rfl⟩) (pV hB.1 hK hN mh0 th0 (show shp cA 12 _ _ _ = .inr (12, Fs12 _ _ _) from rfl) rfl) rfl rfl hl.1 rfl (lv_room (Nat.le_of_ble_eq_true rfl)) dX12_findsDownwards_32 ⟨Nat.le_of_ble_eq_true rfl, Nat.le_of_ble_eq_true rfl⟩) hLA hA hB hS (by decide) (fun x_433 σ_431 ρ_432 H locs hB fσ_431 pσ_431 hS => ?_)
    have qσ_431 := FR.nil fσ_431
    subst qσ_431
    obtain ⟨g_434, g_435⟩ := pσ_431
    have dx_433 := congrArg Int32.toInt g_435
    obtain ⟨lx_433, ux_433⟩ := g_434
    refine lv_icmp_ge (tgt := 56) hx hb dX12_findsDownwards_35 (by decide) (fun c_436 => ?_) (fun c_436 => ?_)
    · skip
      have uc_436 := j_le c_436
      refine lv_aload_n hx hb dX12_findsDownwards_56 rfl (lv_at hl 4 rfl) ?_
      refine t_gk hx hb hts hown hK hB mh0 th0 fq_12_32 hba mw_6_8 dX12_findsDownwards_57 ?_
      refine lv_iload_n hx hb dX12_findsDownwards_60 rfl (lv_at hl 2 rfl) ?_
      refine lv_iload hx hb dX12_findsDownwards_61 (lv_at hl 1 rfl) ?_
      refine lv_bipush (v := 9) hx hb dX12_findsDownwards_63 (by decide) ?_
      refine lv_icmp_ge (tgt := 73) hx hb dX12_findsDownwards_65 (by decide) (fun c_437 => ?_) (fun c_437 => ?_)
      · skip
        have uc_437 := i_ge (n := 9) (by decide) c_437
        refine lv_bipush (v := 9) hx hb dX12_findsDownwards_73 (by decide) ?_
        refine t_si hx hb hK hLA hB hS mba tba ai_77 (i_in (by omega) (by omega)) (show 0 ≤ (9 : Int32).toInt by decide) (show (9 : Int32).toInt ≤ 9 by decide) (Or.inr (by decide)) dX12_findsDownwards_75 (fun H locs σ_438 eσ_438 hB hS => ?_)
        have k_439 : σ_438 ba i_3.toNatClampNeg = 9 := by rw [eσ_438]; exact up2_same _ _ _ _
        obtain ⟨x_440, ex_440⟩ : ∃ y : Int32, y = i_3 + 1 := ⟨_, rfl⟩
        have vx_440 := b_add (rfl : i_3.toInt = _) (by decide : (1 : Int32).toInt = 1) ex_440 (by omega) (by omega)
        refine lv_iinc (v := x_440) (lv' := [(3, .int x_440), (5, .int i_423), (4, .int i_422), (2, .int 1), (0, .ref h0), (1, .int p1)]) hx hb dX12_findsDownwards_76 hl (k := 2) rfl (by rw [ex_440]; rfl) (by decide) rfl (fun ls hl => ?_)
        refine lv_goto (tgt := 9) hx hb dX12_findsDownwards_79 (by decide) ?_
        have k_441 : σ_438 h0 30 = (-1) := by rw [eσ_438, up2_nea _ _ (tg_ne th0 tba (by decide))]; exact k_427
        have k_442a := congrFun eσ_438 br
        rw [up2_row _ _ (tg_ne tbr tba (by decide))] at k_442a
        exact ih_6 ⟨x_440, σ_438, ρ_432⟩ _ _ _ ⟨(by omega), (by omega), k_441, (fun j hj => by rw [k_442a]; exact g_428 j (by omega)), hB, hS, lv_sub hl [0, 3, 4, 5] rfl⟩ (by show (5 - x_440.toInt).toNat < (5 - i_3.toInt).toNat; omega)
      · skip
        have uc_437 := i_nge (n := 9) (by decide) c_437
        refine lv_iload hx hb dX12_findsDownwards_68 (lv_at hl 1 rfl) ?_
        refine lv_goto (tgt := 75) hx hb dX12_findsDownwards_70 (by decide) ?_
        refine t_si hx hb hK hLA hB hS mba tba ai_77 (i_in (by omega) (by omega)) (by show 0 ≤ _; (first | omega | (subst_vars; omega))) (by show _ ≤ 9; (first | omega | (subst_vars; omega))) (Or.inr (by decide)) dX12_findsDownwards_75 (fun H locs σ_443 eσ_443 hB hS => ?_)
        have k_444 : σ_443 ba i_3.toNatClampNeg = i_422 := by rw [eσ_443]; exact up2_same _ _ _ _
        obtain ⟨x_445, ex_445⟩ : ∃ y : Int32, y = i_3 + 1 := ⟨_, rfl⟩
        have vx_445 := b_add (rfl : i_3.toInt = _) (by decide : (1 : Int32).toInt = 1) ex_445 (by omega) (by omega)
        refine lv_iinc (v := x_445) (lv' := [(3, .int x_445), (5, .int i_423), (4, .int i_422), (2, .int 1), (0, .ref h0), (1, .int p1)]) hx hb dX12_findsDownwards_76 hl (k := 2) rfl (by rw [ex_445]; rfl) (by decide) rfl (fun ls hl => ?_)
        refine lv_goto (tgt := 9) hx hb dX12_findsDownwards_79 (by decide) ?_
        have k_446 : σ_443 h0 30 = (-1) := by rw [eσ_443, up2_nea _ _ (tg_ne th0 tba (by decide))]; exact k_427
        have k_447a := congrFun eσ_443 br
        rw [up2_row _ _ (tg_ne tbr tba (by decide))] at k_447a
        exact ih_6 ⟨x_445, σ_443, ρ_432⟩ _ _ _ ⟨(by omega), (by omega), k_446, (fun j hj => by rw [k_447a]; exact g_428 j (by omega)), hB, hS, lv_sub hl [0, 3, 4, 5] rfl⟩ (by show (5 - x_445.toInt).toNat < (5 - i_3.toInt).toNat; omega)
    · skip
      have uc_436 := j_nle c_436
      refine lv_iload hx hb dX12_findsDownwards_38 (lv_at hl 1 rfl) ?_
      refine lv_aload_n hx hb dX12_findsDownwards_40 rfl (lv_at hl 4 rfl) ?_
      refine lv_iload hx hb dX12_findsDownwards_41 (lv_at hl 0 rfl) ?_
      refine lv_iload_n hx hb dX12_findsDownwards_43 rfl (lv_at hl 2 rfl) ?_
      refine t_ci (va_runV (As := [.int i_423, .int i_3]) (rest := [.int i_422]) ⟨hx, hb, hml, hown, hts⟩ (cz_X12_heapOf l D cA L T r hG hLA.1 σ_424 ρ_432 hB.2.1 _ h0 mh0 th0 i_423 i_3 b_430 hb_430 mb_430 tb_430 (by first | omega | decide) (by first | omega | decide) (by first | omega | decide) (by first | omega | decide)) (cV hts mv_X12_heapOf mw_7_102 rfl rfl ⟨Nat.le_of_ble_eq_true rfl, Nat.le_of_ble_eq_true rfl⟩) (pV hB.1 hK hN mh0 th0 (show shp cA 12 _ _ _ = .inr (12, Fs12 _ _ _) from rfl) rfl) rfl rfl hl.1 rfl (lv_room (Nat.le_of_ble_eq_true rfl)) dX12_findsDownwards_44 ⟨Nat.le_of_ble_eq_true rfl, Nat.le_of_ble_eq_true rfl⟩) hLA hA hB hS (by decide) (fun x_450 σ_448 ρ_449 H locs hB fσ_448 pσ_448 hS => ?_)
      have qσ_448 := FR.nil fσ_448
      subst qσ_448
      obtain ⟨g_451, g_452⟩ := pσ_448
      obtain ⟨lx_450, ux_450⟩ := g_451
      refine lv_iadd hx hb dX12_findsDownwards_47 ?_
      refine lv_topi (fun x_453 ex_453 => ?_)
      have vx_453 := b_add (rfl : i_422.toInt = _) (rfl : x_450.toInt = _) ex_453 (by omega) (by omega)
      refine lv_istore (lv' := [(4, .int x_453), (5, .int i_423), (3, .int i_3), (2, .int 1), (0, .ref h0), (1, .int p1)]) hx hb dX12_findsDownwards_48 hl (by decide) rfl (fun ls hl => ?_)
      obtain ⟨x_454, ex_454⟩ : ∃ y : Int32, y = i_423 + 1 := ⟨_, rfl⟩
      have vx_454 := b_add (rfl : i_423.toInt = _) (by decide : (1 : Int32).toInt = 1) ex_454 (by omega) (by omega)
      refine lv_iinc (v := x_454) (lv' := [(5, .int x_454), (4, .int x_453), (3, .int i_3), (2, .int 1), (0, .ref h0), (1, .int p1)]) hx hb dX12_findsDownwards_50 hl (k := 1) rfl (by rw [ex_454]; rfl) (by decide) rfl (fun ls hl => ?_)
      refine lv_goto (tgt := 27) hx hb dX12_findsDownwards_53 (by decide) ?_
      exact ih_426 ⟨x_453, x_454, σ_424, ρ_449⟩ _ _ _ ⟨(by omega), (by omega), (by omega), (by omega), k_427, (fun j hj => g_428 j hj), (by first | decide | omega), hB, hS, lv_sub hl [0, 1, 2, 3, 4, 5] rfl⟩ (by show (8 - x_454.toInt).toNat < (8 - i_423.toInt).toNat; omega)
theorem mw_8_44 : (.instanceMethod yX12_findsDownwards : Cond) ∈ wsA := wsA_t (List.mem_append_right _ (List.mem_append_right _ (List.mem_append_right _ (List.mem_append_right _ (List.mem_append_right _ (List.mem_append_right _ (List.mem_append_right _ (List.mem_of_getElem? (l := tables_1_8) (i := 44) rfl)))))))) rfl
theorem mp_8_0 : (.selects RX12 yX12_findsDownwards yX12_findsDownwards : Cond) ∈ wsA := wsA_p (q := (yX12_findsDownwards, 44)) (List.mem_append_right _ (List.mem_append_right _ (List.mem_append_right _ (List.mem_append_right _ (List.mem_append_right _ (List.mem_append_right _ (List.mem_append_right _ (List.mem_of_getElem? (l := lw_privs_8) (i := 0) rfl))))))))
theorem mw_8_45 : (.code yX12_findsDownwards cX12_findsDownwards 6 none : Cond) ∈ wsA := wsA_t (List.mem_append_right _ (List.mem_append_right _ (List.mem_append_right _ (List.mem_append_right _ (List.mem_append_right _ (List.mem_append_right _ (List.mem_append_right _ (List.mem_of_getElem? (l := tables_1_8) (i := 45) rfl)))))))) rfl
theorem mw_8_42 : (.methodLink RX12 416 yX12_findsDownwards : Cond) ∈ wsA := wsA_t (List.mem_append_right _ (List.mem_append_right _ (List.mem_append_right _ (List.mem_append_right _ (List.mem_append_right _ (List.mem_append_right _ (List.mem_append_right _ (List.mem_of_getElem? (l := tables_1_8) (i := 42) rfl)))))))) rfl
theorem dX12_downwards_0 : decode cX12_downwards 0 = .ok (.aload_n 0, 1) := by decide +kernel
theorem dX12_downwards_1 : decode cX12_downwards 1 = .ok (.iload_n 1, 1) := by decide +kernel
theorem dX12_downwards_2 : decode cX12_downwards 2 = .ok (.invokevirtual 319, 3) := by decide +kernel
theorem dX12_downwards_5 : decode cX12_downwards 5 = .ok (.ifCond .eq 16, 3) := by decide +kernel
theorem dX12_downwards_21 : decode cX12_downwards 21 = .ok (.bipush (-2), 2) := by decide +kernel
theorem dX12_downwards_23 : decode cX12_downwards 23 = .ok (.ireturn, 1) := by decide +kernel
theorem dX12_downwards_8 : decode cX12_downwards 8 = .ok (.iload_n 2, 1) := by decide +kernel
theorem dX12_downwards_9 : decode cX12_downwards 9 = .ok (.iconst (-1), 1) := by decide +kernel
theorem dX12_downwards_10 : decode cX12_downwards 10 = .ok (.if_icmp .eq 14, 3) := by decide +kernel
theorem dX12_downwards_24 : decode cX12_downwards 24 = .ok (.aload_n 0, 1) := by decide +kernel
theorem dX12_downwards_25 : decode cX12_downwards 25 = .ok (.iload_n 1, 1) := by decide +kernel
theorem dX12_downwards_26 : decode cX12_downwards 26 = .ok (.invokevirtual 416, 3) := by decide +kernel
theorem dX12_downwards_29 : decode cX12_downwards 29 = .ok (.iload_n 2, 1) := by decide +kernel
theorem dX12_downwards_30 : decode cX12_downwards 30 = .ok (.iconst (-1), 1) := by decide +kernel
theorem dX12_downwards_31 : decode cX12_downwards 31 = .ok (.if_icmp .ne 10, 3) := by decide +kernel
theorem dX12_downwards_34 : decode cX12_downwards 34 = .ok (.aload_n 0, 1) := by decide +kernel
theorem dX12_downwards_35 : decode cX12_downwards 35 = .ok (.getfield 392, 3) := by decide +kernel
theorem dX12_downwards_38 : decode cX12_downwards 38 = .ok (.goto 9, 3) := by decide +kernel
theorem dX12_downwards_47 : decode cX12_downwards 47 = .ok (.ireturn, 1) := by decide +kernel
theorem dX12_downwards_13 : decode cX12_downwards 13 = .ok (.aload_n 0, 1) := by decide +kernel
theorem dX12_downwards_14 : decode cX12_downwards 14 = .ok (.iload_n 2, 1) := by decide +kernel
theorem dX12_downwards_15 : decode cX12_downwards 15 = .ok (.invokevirtual 335, 3) := by decide +kernel
theorem dX12_downwards_18 : decode cX12_downwards 18 = .ok (.ifCond .ne 6, 3) := by decide +kernel
theorem dX12_downwards_41 : decode cX12_downwards 41 = .ok (.aload_n 0, 1) := by decide +kernel
theorem dX12_downwards_42 : decode cX12_downwards 42 = .ok (.getfield 61, 3) := by decide +kernel
theorem dX12_downwards_45 : decode cX12_downwards 45 = .ok (.iload_n 2, 1) := by decide +kernel
theorem dX12_downwards_46 : decode cX12_downwards 46 = .ok (.iaload, 1) := by decide +kernel
theorem mv_X12_findsDownwards : MV RX12 yX12_findsDownwards cX12_findsDownwards 6 none 1 := ⟨mw_8_44, mp_8_0, mw_1_13, mw_8_45, ⟨rfl, by decide, by decide, by decide +kernel⟩⟩
set_option maxHeartbeats 4000000 in
set_option maxRecDepth 100000 in
theorem cy_X12_downwards (l : Launch) (D : va_G) (cA : Nat → ClassId) (L : List Nat) (T : Nat → Nat) (r : Rg) (hG : GR L T r) (hL : L.Nodup) (σ : Sg) (ρ : Lg) (hW : WT L ry T σ) (sz : Nat) (h0 : Nat) (mh0 : h0 ∈ L) (th0 : T h0 = 12) (p1 : Int32) (p2 : Int32) : Met l yX12_downwards (.code yX12_downwards cX12_downwards 3 (some .int) :: wsA) ({ frames := 4, cells := 0, slots := 0, locals := 92 }) (PR D cA L T r σ ρ sz [.ref h0, .int p1, .int p2]) (QI D cA L T r ry [(12, 30), (12, 31), (73, 1000), (75, 1000), (76, 1000), (77, 1000)] σ sz (fun x σ1 => True)) 0 0 (dm L sz) := by
  refine Met.ofW (cc := cX12_downwards) (maxL := 3) (ret := (some .int)) (by decide) rfl ?_
  intro p e s m args below meth c s₁ B hml hv
  obtain ⟨rfl, hsz, hP, hK, hN⟩ := hv
  have hx := B.exec
  have hb := B.bytes
  have hr := B.returns
  have hts : ∀ w ∈ wsA, w.before _ s = true := fun w h => atoms_spec (ws := .code yX12_downwards cX12_downwards 3 (some .int) :: wsA) B.pre w (List.mem_cons_of_mem _ h)
  have hown : s.vm.findClass RX12 = some m.cls := findClass_of_methodNamed B.named
  subst hsz
  have hLA : LA (dm L s.heap.size) L := ⟨hL, fun a h => Or.inl h⟩
  have hA : ∀ q : Nat, s.heap.size ≤ q → dm L s.heap.size q := fun q h => Or.inr h
  have hS : va_S (dm L s.heap.size) s.heap s.heap [] := va_S.rf
  have hB : TS D cA L T r ry [(12, 30), (12, 31), (73, 1000), (75, 1000), (76, 1000), (77, 1000)] σ σ ρ s.heap := ⟨hP, hW, FR.rf⟩
  have hl := lv_entry ([.ref h0, .int p1, .int p2]) (n := 3) (Nat.le_of_ble_eq_true rfl)
  rw [lg_entry_eq]
  generalize (lg_sl ([.ref h0, .int p1, .int p2]) ++ List.replicate (3 - (lg_sl ([.ref h0, .int p1, .int p2])).length) Slot.unset).toArray = ls at hl ⊢
  have hl : lv_has ls 3 [(0, .ref h0), (1, .int p1), (2, .int p2)] := hl
  refine lv_aload_n hx hb dX12_downwards_0 rfl (lv_at hl 0 rfl) ?_
  refine lv_iload_n hx hb dX12_downwards_1 rfl (lv_at hl 1 rfl) ?_
  refine t_ci (va_runV (As := [.int p1]) (rest := []) ⟨hx, hb, hml, hown, hts⟩ (cy_X12_isPilgrim l D cA L T r hG hLA.1 σ ρ hB.2.1 _ h0 mh0 th0 p1) (cV hts mv_X12_isPilgrim mw_7_64 rfl rfl ⟨Nat.le_of_ble_eq_true rfl, Nat.le_of_ble_eq_true rfl⟩) (pV hB.1 hK hN mh0 th0 (show shp cA 12 _ _ _ = .inr (12, Fs12 _ _ _) from rfl) rfl) rfl rfl hl.1 rfl (lv_room (Nat.le_of_ble_eq_true rfl)) dX12_downwards_2 ⟨Nat.le_of_ble_eq_true rfl, Nat.le_of_ble_eq_true rfl⟩) hLA hA hB hS (by decide) (fun x_3 σ_1 ρ_2 H locs hB fσ_1 pσ_1 hS => ?_)
  have qσ_1 := FR.nil fσ_1
  subst qσ_1
  obtain ⟨ox_3, ix_3⟩ := pσ_1
  refine lv_if_eq (tgt := 21) hx hb dX12_downwards_5 (by decide) (fun c_4 => ?_) (fun c_4 => ?_)
  · skip
    have uc_4 := i_eq (n := 0) (by decide) c_4
    refine lv_bipush (v := (-2)) hx hb dX12_downwards_21 (by decide) ?_
    exact W.iret (v := (-2)) hx hb hr (fun t ht hW => ⟨⟨(-2), (σ, ρ_2), rfl, ⟨hB.2.1, hB.2.2, trivial⟩, (show TP D cA L T r σ ρ_2 t.heap from by rw [ht]; exact hB.1)⟩, hS.F ht⟩) hS.2.2 dX12_downwards_23
  · skip
    have uc_4 := i_ne (n := 0) (by decide) c_4
    refine lv_iload_n hx hb dX12_downwards_8 rfl (lv_at hl 2 rfl) ?_
    refine lv_iconst (v := (-1)) hx hb dX12_downwards_9 (by decide) ?_
    refine lv_icmp_eq (tgt := 24) hx hb dX12_downwards_10 (by decide) (fun c_5 => ?_) (fun c_5 => ?_)
    · skip
      have uc_5 := i_eq (n := (-1)) (by decide) c_5
      refine lv_aload_n hx hb dX12_downwards_24 rfl (lv_at hl 0 rfl) ?_
      refine lv_iload_n hx hb dX12_downwards_25 rfl (lv_at hl 1 rfl) ?_
      obtain ⟨b_6, hb_6, mb_6, tb_6⟩ := hG h0 mh0 28 _ (by rw [th0]; rfl)
      obtain ⟨b_7, hb_7, mb_7, tb_7⟩ := hG h0 mh0 26 _ (by rw [th0]; rfl)
      obtain ⟨b_8, hb_8, mb_8, tb_8⟩ := hG h0 mh0 32 _ (by rw [th0]; rfl)
      refine t_cv (va_runV (As := [.int p1]) (rest := []) ⟨hx, hb, hml, hown, hts⟩ (cz_X12_findsDownwards l D cA L T r hG hLA.1 σ ρ_2 hB.2.1 _ h0 mh0 th0 p1 b_6 hb_6 mb_6 tb_6 b_7 hb_7 mb_7 tb_7 b_8 hb_8 mb_8 tb_8 (by first | omega | decide) (by first | omega | decide)) (cV hts mv_X12_findsDownwards mw_8_42 rfl rfl ⟨Nat.le_of_ble_eq_true rfl, Nat.le_of_ble_eq_true rfl⟩) (pV hB.1 hK hN mh0 th0 (show shp cA 12 _ _ _ = .inr (12, Fs12 _ _ _) from rfl) rfl) rfl rfl hl.1 rfl (lv_room (Nat.le_of_ble_eq_true rfl)) dX12_downwards_26 ⟨Nat.le_of_ble_eq_true rfl, Nat.le_of_ble_eq_true rfl⟩) hLA hA hB hS (by decide) (fun σ_9 ρ_10 H locs hB fσ_9 pσ_9 hS => ?_)
      refine lv_iload_n hx hb dX12_downwards_29 rfl (lv_at hl 2 rfl) ?_
      refine lv_iconst (v := (-1)) hx hb dX12_downwards_30 (by decide) ?_
      refine lv_icmp_ne (tgt := 41) hx hb dX12_downwards_31 (by decide) (fun c_12 => ?_) (fun c_12 => ?_)
      · skip
        have uc_12 := i_ne (n := (-1)) (by decide) c_12
        exfalso; omega
      · skip
        have uc_12 := i_eq (n := (-1)) (by decide) c_12
        refine lv_aload_n hx hb dX12_downwards_34 rfl (lv_at hl 0 rfl) ?_
        refine t_gi hx hb hts hown hK hB mh0 th0 fi_12_30 rfl mw_6_6 dX12_downwards_35 (fun x_13 ex_13 lx_13 ux_13 => ?_)
        have cx_13 := congrArg Int32.toInt ex_13
        refine lv_goto (tgt := 47) hx hb dX12_downwards_38 (by decide) ?_
        exact W.iret (v := x_13) hx hb hr (fun t ht hW => ⟨⟨x_13, (σ_9, ρ_10), rfl, ⟨hB.2.1, hB.2.2, trivial⟩, (show TP D cA L T r σ_9 ρ_10 t.heap from by rw [ht]; exact hB.1)⟩, hS.F ht⟩) hS.2.2 dX12_downwards_47
    · skip
      have uc_5 := i_ne (n := (-1)) (by decide) c_5
      refine lv_aload_n hx hb dX12_downwards_13 rfl (lv_at hl 0 rfl) ?_
      refine lv_iload_n hx hb dX12_downwards_14 rfl (lv_at hl 2 rfl) ?_
      refine t_ci (va_runV (As := [.int p2]) (rest := []) ⟨hx, hb, hml, hown, hts⟩ (cy_X12_isSort l D cA L T r hG hLA.1 σ ρ_2 hB.2.1 _ h0 mh0 th0 p2) (cV hts mv_X12_isSort mw_7_110 rfl rfl ⟨Nat.le_of_ble_eq_true rfl, Nat.le_of_ble_eq_true rfl⟩) (pV hB.1 hK hN mh0 th0 (show shp cA 12 _ _ _ = .inr (12, Fs12 _ _ _) from rfl) rfl) rfl rfl hl.1 rfl (lv_room (Nat.le_of_ble_eq_true rfl)) dX12_downwards_15 ⟨Nat.le_of_ble_eq_true rfl, Nat.le_of_ble_eq_true rfl⟩) hLA hA hB hS (by decide) (fun x_16 σ_14 ρ_15 H locs hB fσ_14 pσ_14 hS => ?_)
      have qσ_14 := FR.nil fσ_14
      subst qσ_14
      obtain ⟨ox_16, ix_16⟩ := pσ_14
      refine lv_if_ne (tgt := 24) hx hb dX12_downwards_18 (by decide) (fun c_17 => ?_) (fun c_17 => ?_)
      · skip
        have uc_17 := i_ne (n := 0) (by decide) c_17
        refine lv_aload_n hx hb dX12_downwards_24 rfl (lv_at hl 0 rfl) ?_
        refine lv_iload_n hx hb dX12_downwards_25 rfl (lv_at hl 1 rfl) ?_
        obtain ⟨b_18, hb_18, mb_18, tb_18⟩ := hG h0 mh0 28 _ (by rw [th0]; rfl)
        obtain ⟨b_19, hb_19, mb_19, tb_19⟩ := hG h0 mh0 26 _ (by rw [th0]; rfl)
        obtain ⟨b_20, hb_20, mb_20, tb_20⟩ := hG h0 mh0 32 _ (by rw [th0]; rfl)
        refine t_cv (va_runV (As := [.int p1]) (rest := []) ⟨hx, hb, hml, hown, hts⟩ (cz_X12_findsDownwards l D cA L T r hG hLA.1 σ ρ_15 hB.2.1 _ h0 mh0 th0 p1 b_18 hb_18 mb_18 tb_18 b_19 hb_19 mb_19 tb_19 b_20 hb_20 mb_20 tb_20 (by first | omega | decide) (by first | omega | decide)) (cV hts mv_X12_findsDownwards mw_8_42 rfl rfl ⟨Nat.le_of_ble_eq_true rfl, Nat.le_of_ble_eq_true rfl⟩) (pV hB.1 hK hN mh0 th0 (show shp cA 12 _ _ _ = .inr (12, Fs12 _ _ _) from rfl) rfl) rfl rfl hl.1 rfl (lv_room (Nat.le_of_ble_eq_true rfl)) dX12_downwards_26 ⟨Nat.le_of_ble_eq_true rfl, Nat.le_of_ble_eq_true rfl⟩) hLA hA hB hS (by decide) (fun σ_21 ρ_22 H locs hB fσ_21 pσ_21 hS => ?_)
        refine lv_iload_n hx hb dX12_downwards_29 rfl (lv_at hl 2 rfl) ?_
        refine lv_iconst (v := (-1)) hx hb dX12_downwards_30 (by decide) ?_
        refine lv_icmp_ne (tgt := 41) hx hb dX12_downwards_31 (by decide) (fun c_24 => ?_) (fun c_24 => ?_)
        · skip
          have uc_24 := i_ne (n := (-1)) (by decide) c_24
          refine lv_aload_n hx hb dX12_downwards_41 rfl (lv_at hl 0 rfl) ?_
          refine t_gr hx hb hts hown hK hG hB mh0 th0 fq_12_29 rfl mw_6_5 dX12_downwards_42 (fun b_25 hb_25 mb_25 tb_25 => ?_)
          refine lv_iload_n hx hb dX12_downwards_45 rfl (lv_at hl 2 rfl) ?_
          refine t_ai hx hb hK hB mb_25 tb_25 ai_76 (fun _ => rfl) (i_in (by omega) (by omega)) dX12_downwards_46 (fun x_26 ex_26 lx_26 ux_26 => ?_)
          have cx_26 := congrArg Int32.toInt ex_26
          exact W.iret (v := x_26) hx hb hr (fun t ht hW => ⟨⟨x_26, (σ_21, ρ_22), rfl, ⟨hB.2.1, hB.2.2, trivial⟩, (show TP D cA L T r σ_21 ρ_22 t.heap from by rw [ht]; exact hB.1)⟩, hS.F ht⟩) hS.2.2 dX12_downwards_47
        · skip
          have uc_24 := i_eq (n := (-1)) (by decide) c_24
          refine lv_aload_n hx hb dX12_downwards_34 rfl (lv_at hl 0 rfl) ?_
          refine t_gi hx hb hts hown hK hB mh0 th0 fi_12_30 rfl mw_6_6 dX12_downwards_35 (fun x_27 ex_27 lx_27 ux_27 => ?_)
          have cx_27 := congrArg Int32.toInt ex_27
          refine lv_goto (tgt := 47) hx hb dX12_downwards_38 (by decide) ?_
          exact W.iret (v := x_27) hx hb hr (fun t ht hW => ⟨⟨x_27, (σ_21, ρ_22), rfl, ⟨hB.2.1, hB.2.2, trivial⟩, (show TP D cA L T r σ_21 ρ_22 t.heap from by rw [ht]; exact hB.1)⟩, hS.F ht⟩) hS.2.2 dX12_downwards_47
      · skip
        have uc_17 := i_eq (n := 0) (by decide) c_17
        refine lv_bipush (v := (-2)) hx hb dX12_downwards_21 (by decide) ?_
        exact W.iret (v := (-2)) hx hb hr (fun t ht hW => ⟨⟨(-2), (σ, ρ_15), rfl, ⟨hB.2.1, hB.2.2, trivial⟩, (show TP D cA L T r σ ρ_15 t.heap from by rw [ht]; exact hB.1)⟩, hS.F ht⟩) hS.2.2 dX12_downwards_23
