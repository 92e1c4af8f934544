theorem dX12_words_0 : decode cX12_words 0 = .ok (.iconst 0, 1) := by decide +kernel
theorem dX12_words_1 : decode cX12_words 1 = .ok (.istore_n 2, 1) := by decide +kernel
theorem dX12_words_2 : decode cX12_words 2 = .ok (.iconst 0, 1) := by decide +kernel
theorem dX12_words_3 : decode cX12_words 3 = .ok (.istore_n 3, 1) := by decide +kernel
theorem dX12_words_4 : decode cX12_words 4 = .ok (.iconst 0, 1) := by decide +kernel
theorem dX12_words_5 : decode cX12_words 5 = .ok (.istore 4, 2) := by decide +kernel
theorem dX12_words_7 : decode cX12_words 7 = .ok (.iload 4, 2) := by decide +kernel
theorem dX12_words_9 : decode cX12_words 9 = .ok (.aload_n 0, 1) := by decide +kernel
theorem dX12_words_10 : decode cX12_words 10 = .ok (.getfield 39, 3) := by decide +kernel
theorem dX12_words_13 : decode cX12_words 13 = .ok (.iconst 3, 1) := by decide +kernel
theorem dX12_words_14 : decode cX12_words 14 = .ok (.iaload, 1) := by decide +kernel
theorem dX12_words_15 : decode cX12_words 15 = .ok (.if_icmp .ge 47, 3) := by decide +kernel
theorem dX12_words_18 : decode cX12_words 18 = .ok (.iload_n 2, 1) := by decide +kernel
theorem dX12_words_19 : decode cX12_words 19 = .ok (.aload_n 0, 1) := by decide +kernel
theorem dX12_words_20 : decode cX12_words 20 = .ok (.iload 4, 2) := by decide +kernel
theorem dX12_words_22 : decode cX12_words 22 = .ok (.iconst 0, 1) := by decide +kernel
theorem dX12_words_23 : decode cX12_words 23 = .ok (.invokevirtual 324, 3) := by decide +kernel
theorem dX12_words_26 : decode cX12_words 26 = .ok (.iload_n 1, 1) := by decide +kernel
theorem dX12_words_27 : decode cX12_words 27 = .ok (.if_icmp .le 7, 3) := by decide +kernel
theorem dX12_words_34 : decode cX12_words 34 = .ok (.iconst 0, 1) := by decide +kernel
theorem dX12_words_35 : decode cX12_words 35 = .ok (.iadd, 1) := by decide +kernel
theorem dX12_words_36 : decode cX12_words 36 = .ok (.istore_n 2, 1) := by decide +kernel
theorem dX12_words_37 : decode cX12_words 37 = .ok (.iload_n 3, 1) := by decide +kernel
theorem dX12_words_38 : decode cX12_words 38 = .ok (.aload_n 0, 1) := by decide +kernel
theorem dX12_words_39 : decode cX12_words 39 = .ok (.iload 4, 2) := by decide +kernel
theorem dX12_words_41 : decode cX12_words 41 = .ok (.iconst 0, 1) := by decide +kernel
theorem dX12_words_42 : decode cX12_words 42 = .ok (.invokevirtual 324, 3) := by decide +kernel
theorem dX12_words_45 : decode cX12_words 45 = .ok (.iload_n 1, 1) := by decide +kernel
theorem dX12_words_46 : decode cX12_words 46 = .ok (.if_icmp .ne 7, 3) := by decide +kernel
theorem dX12_words_53 : decode cX12_words 53 = .ok (.iconst 0, 1) := by decide +kernel
theorem dX12_words_54 : decode cX12_words 54 = .ok (.iadd, 1) := by decide +kernel
theorem dX12_words_55 : decode cX12_words 55 = .ok (.istore_n 3, 1) := by decide +kernel
theorem dX12_words_56 : decode cX12_words 56 = .ok (.iinc 4 1, 3) := by decide +kernel
theorem dX12_words_59 : decode cX12_words 59 = .ok (.goto (-52), 3) := by decide +kernel
theorem dX12_words_49 : decode cX12_words 49 = .ok (.iconst 1, 1) := by decide +kernel
theorem dX12_words_50 : decode cX12_words 50 = .ok (.goto 4, 3) := by decide +kernel
theorem dX12_words_30 : decode cX12_words 30 = .ok (.iconst 1, 1) := by decide +kernel
theorem dX12_words_31 : decode cX12_words 31 = .ok (.goto 4, 3) := by decide +kernel
theorem dX12_words_62 : decode cX12_words 62 = .ok (.aload_n 0, 1) := by decide +kernel
theorem dX12_words_63 : decode cX12_words 63 = .ok (.getfield 36, 3) := by decide +kernel
theorem dX12_words_66 : decode cX12_words 66 = .ok (.iconst 0, 1) := by decide +kernel
theorem dX12_words_67 : decode cX12_words 67 = .ok (.iload_n 1, 1) := by decide +kernel
theorem dX12_words_68 : decode cX12_words 68 = .ok (.i2l, 1) := by decide +kernel
theorem dX12_words_69 : decode cX12_words 69 = .ok (.lastore, 1) := by decide +kernel
theorem dX12_words_70 : decode cX12_words 70 = .ok (.aload_n 0, 1) := by decide +kernel
theorem dX12_words_71 : decode cX12_words 71 = .ok (.getfield 36, 3) := by decide +kernel
theorem dX12_words_74 : decode cX12_words 74 = .ok (.iconst 1, 1) := by decide +kernel
theorem dX12_words_75 : decode cX12_words 75 = .ok (.aload_n 0, 1) := by decide +kernel
theorem dX12_words_76 : decode cX12_words 76 = .ok (.iload_n 1, 1) := by decide +kernel
theorem dX12_words_77 : decode cX12_words 77 = .ok (.iconst 0, 1) := by decide +kernel
theorem dX12_words_78 : decode cX12_words 78 = .ok (.invokevirtual 300, 3) := by decide +kernel
theorem dX12_words_81 : decode cX12_words 81 = .ok (.i2l, 1) := by decide +kernel
theorem dX12_words_82 : decode cX12_words 82 = .ok (.lastore, 1) := by decide +kernel
theorem dX12_words_83 : decode cX12_words 83 = .ok (.aload_n 0, 1) := by decide +kernel
theorem dX12_words_84 : decode cX12_words 84 = .ok (.getfield 36, 3) := by decide +kernel
theorem dX12_words_87 : decode cX12_words 87 = .ok (.iconst 2, 1) := by decide +kernel
theorem dX12_words_88 : decode cX12_words 88 = .ok (.aload_n 0, 1) := by decide +kernel
theorem dX12_words_89 : decode cX12_words 89 = .ok (.iload_n 1, 1) := by decide +kernel
theorem dX12_words_90 : decode cX12_words 90 = .ok (.iconst 1, 1) := by decide +kernel
theorem dX12_words_91 : decode cX12_words 91 = .ok (.invokevirtual 300, 3) := by decide +kernel
theorem dX12_words_94 : decode cX12_words 94 = .ok (.i2l, 1) := by decide +kernel
theorem dX12_words_95 : decode cX12_words 95 = .ok (.lastore, 1) := by decide +kernel
theorem dX12_words_96 : decode cX12_words 96 = .ok (.aload_n 0, 1) := by decide +kernel
theorem dX12_words_97 : decode cX12_words 97 = .ok (.getfield 36, 3) := by decide +kernel
theorem dX12_words_100 : decode cX12_words 100 = .ok (.iconst 3, 1) := by decide +kernel
theorem dX12_words_101 : decode cX12_words 101 = .ok (.aload_n 0, 1) := by decide +kernel
theorem dX12_words_102 : decode cX12_words 102 = .ok (.iload_n 1, 1) := by decide +kernel
theorem dX12_words_103 : decode cX12_words 103 = .ok (.invokevirtual 332, 3) := by decide +kernel
theorem dX12_words_106 : decode cX12_words 106 = .ok (.i2l, 1) := by decide +kernel
theorem dX12_words_107 : decode cX12_words 107 = .ok (.lastore, 1) := by decide +kernel
theorem dX12_words_108 : decode cX12_words 108 = .ok (.aload_n 0, 1) := by decide +kernel
theorem dX12_words_109 : decode cX12_words 109 = .ok (.getfield 36, 3) := by decide +kernel
theorem dX12_words_112 : decode cX12_words 112 = .ok (.iconst 4, 1) := by decide +kernel
theorem dX12_words_113 : decode cX12_words 113 = .ok (.aload_n 0, 1) := by decide +kernel
theorem dX12_words_114 : decode cX12_words 114 = .ok (.getfield 39, 3) := by decide +kernel
theorem dX12_words_117 : decode cX12_words 117 = .ok (.iconst 4, 1) := by decide +kernel
theorem dX12_words_118 : decode cX12_words 118 = .ok (.iaload, 1) := by decide +kernel
theorem dX12_words_119 : decode cX12_words 119 = .ok (.i2l, 1) := by decide +kernel
theorem dX12_words_120 : decode cX12_words 120 = .ok (.lastore, 1) := by decide +kernel
theorem dX12_words_121 : decode cX12_words 121 = .ok (.aload_n 0, 1) := by decide +kernel
theorem dX12_words_122 : decode cX12_words 122 = .ok (.getfield 36, 3) := by decide +kernel
theorem dX12_words_125 : decode cX12_words 125 = .ok (.iconst 5, 1) := by decide +kernel
theorem dX12_words_126 : decode cX12_words 126 = .ok (.aload_n 0, 1) := by decide +kernel
theorem dX12_words_127 : decode cX12_words 127 = .ok (.iload_n 1, 1) := by decide +kernel
theorem dX12_words_128 : decode cX12_words 128 = .ok (.aload_n 0, 1) := by decide +kernel
theorem dX12_words_129 : decode cX12_words 129 = .ok (.iload_n 1, 1) := by decide +kernel
theorem dX12_words_130 : decode cX12_words 130 = .ok (.iconst 0, 1) := by decide +kernel
theorem dX12_words_131 : decode cX12_words 131 = .ok (.invokevirtual 300, 3) := by decide +kernel
theorem dX12_words_134 : decode cX12_words 134 = .ok (.invokevirtual 313, 3) := by decide +kernel
theorem dX12_words_137 : decode cX12_words 137 = .ok (.i2l, 1) := by decide +kernel
theorem dX12_words_138 : decode cX12_words 138 = .ok (.lastore, 1) := by decide +kernel
theorem dX12_words_139 : decode cX12_words 139 = .ok (.aload_n 0, 1) := by decide +kernel
theorem dX12_words_140 : decode cX12_words 140 = .ok (.getfield 36, 3) := by decide +kernel
theorem dX12_words_143 : decode cX12_words 143 = .ok (.bipush 6, 2) := by decide +kernel
theorem dX12_words_145 : decode cX12_words 145 = .ok (.aload_n 0, 1) := by decide +kernel
theorem dX12_words_146 : decode cX12_words 146 = .ok (.iload_n 1, 1) := by decide +kernel
theorem dX12_words_147 : decode cX12_words 147 = .ok (.aload_n 0, 1) := by decide +kernel
theorem dX12_words_148 : decode cX12_words 148 = .ok (.iload_n 1, 1) := by decide +kernel
theorem dX12_words_149 : decode cX12_words 149 = .ok (.iconst 1, 1) := by decide +kernel
theorem dX12_words_150 : decode cX12_words 150 = .ok (.invokevirtual 300, 3) := by decide +kernel
theorem dX12_words_153 : decode cX12_words 153 = .ok (.invokevirtual 313, 3) := by decide +kernel
theorem dX12_words_156 : decode cX12_words 156 = .ok (.i2l, 1) := by decide +kernel
theorem dX12_words_157 : decode cX12_words 157 = .ok (.lastore, 1) := by decide +kernel
theorem dX12_words_158 : decode cX12_words 158 = .ok (.aload_n 0, 1) := by decide +kernel
theorem dX12_words_159 : decode cX12_words 159 = .ok (.getfield 36, 3) := by decide +kernel
theorem dX12_words_162 : decode cX12_words 162 = .ok (.bipush 7, 2) := by decide +kernel
theorem dX12_words_164 : decode cX12_words 164 = .ok (.aload_n 0, 1) := by decide +kernel
theorem dX12_words_165 : decode cX12_words 165 = .ok (.iload_n 1, 1) := by decide +kernel
theorem dX12_words_166 : decode cX12_words 166 = .ok (.invokevirtual 344, 3) := by decide +kernel
theorem dX12_words_169 : decode cX12_words 169 = .ok (.i2l, 1) := by decide +kernel
theorem dX12_words_170 : decode cX12_words 170 = .ok (.lastore, 1) := by decide +kernel
theorem dX12_words_171 : decode cX12_words 171 = .ok (.aload_n 0, 1) := by decide +kernel
theorem dX12_words_172 : decode cX12_words 172 = .ok (.getfield 36, 3) := by decide +kernel
theorem dX12_words_175 : decode cX12_words 175 = .ok (.bipush 8, 2) := by decide +kernel
theorem dX12_words_177 : decode cX12_words 177 = .ok (.iload_n 2, 1) := by decide +kernel
theorem dX12_words_178 : decode cX12_words 178 = .ok (.i2l, 1) := by decide +kernel
theorem dX12_words_179 : decode cX12_words 179 = .ok (.lastore, 1) := by decide +kernel
theorem dX12_words_180 : decode cX12_words 180 = .ok (.aload_n 0, 1) := by decide +kernel
theorem dX12_words_181 : decode cX12_words 181 = .ok (.getfield 36, 3) := by decide +kernel
theorem dX12_words_184 : decode cX12_words 184 = .ok (.bipush 9, 2) := by decide +kernel
theorem dX12_words_186 : decode cX12_words 186 = .ok (.iload_n 3, 1) := by decide +kernel
theorem dX12_words_187 : decode cX12_words 187 = .ok (.i2l, 1) := by decide +kernel
theorem dX12_words_188 : decode cX12_words 188 = .ok (.lastore, 1) := by decide +kernel
theorem dX12_words_189 : decode cX12_words 189 = .ok (.return_, 1) := by decide +kernel
set_option maxHeartbeats 4000000 in
set_option maxRecDepth 100000 in
theorem cy_X12_words (l : Launch) (D : va_G) (cA : Nat → ClassId) (L : List Nat) (T : Nat → Nat) (r : Rg) (hG : GR L T r) (hL : L.Nodup) (σ : Sg) (ρ : Lg) (hW : WT L ry T σ) (sz : Nat) (h0 : Nat) (mh0 : h0 ∈ L) (th0 : T h0 = 12) (p1 : Int32) (w0 : 0 ≤ p1.toInt) (w1 : p1.toInt ≤ 7) : Met l yX12_words (.code yX12_words cX12_words 5 none :: wsA) ({ frames := 2, cells := 0, slots := 0, locals := 45 }) (PR D cA L T r σ ρ sz [.ref h0, .int p1]) (QV D cA L T r ry ([] : List (Nat × Nat)) σ sz (fun σ1 => True)) 0 0 (dm L sz) := by
  refine Met.ofW (cc := cX12_words) (maxL := 5) (ret := none) (by decide) rfl ?_
  intro p e s m args below meth c s₁ B hml hv
  obtain ⟨rfl, hsz, hP, hK, hN⟩ := hv
  have hx := B.exec
  have hb := B.bytes
  have hr := B.returns
  have hts : ∀ w ∈ wsA, w.before _ s = true := fun w h => atoms_spec (ws := .code yX12_words cX12_words 5 none :: wsA) B.pre w (List.mem_cons_of_mem _ h)
  have hown : s.vm.findClass RX12 = some m.cls := findClass_of_methodNamed B.named
  subst hsz
  have hLA : LA (dm L s.heap.size) L := ⟨hL, fun a h => Or.inl h⟩
  have hA : ∀ q : Nat, s.heap.size ≤ q → dm L s.heap.size q := fun q h => Or.inr h
  have hS : va_S (dm L s.heap.size) s.heap s.heap [] := va_S.rf
  have hB : TS D cA L T r ry ([] : List (Nat × Nat)) σ σ ρ s.heap := ⟨hP, hW, FR.rf⟩
  have hl := lv_entry ([.ref h0, .int p1]) (n := 5) (Nat.le_of_ble_eq_true rfl)
  rw [lg_entry_eq]
  generalize (lg_sl ([.ref h0, .int p1]) ++ List.replicate (5 - (lg_sl ([.ref h0, .int p1])).length) Slot.unset).toArray = ls at hl ⊢
  have hl : lv_has ls 5 [(0, .ref h0), (1, .int p1)] := hl
  refine lv_iconst (v := 0) hx hb dX12_words_0 (by decide) ?_
  refine lv_istore_n (lv' := [(2, .int 0), (0, .ref h0), (1, .int p1)]) hx hb dX12_words_1 rfl hl (by decide) rfl (fun ls hl => ?_)
  refine lv_iconst (v := 0) hx hb dX12_words_2 (by decide) ?_
  refine lv_istore_n (lv' := [(3, .int 0), (2, .int 0), (0, .ref h0), (1, .int p1)]) hx hb dX12_words_3 rfl hl (by decide) rfl (fun ls hl => ?_)
  refine lv_iconst (v := 0) hx hb dX12_words_4 (by decide) ?_
  refine lv_istore (lv' := [(4, .int 0), (3, .int 0), (2, .int 0), (0, .ref h0), (1, .int p1)]) hx hb dX12_words_5 hl (by decide) rfl (fun ls hl => ?_)
  refine w_loop (α := Int32 × Int32 × Int32 × Sg × Lg) (fun (i_1, i_2, i_3, σ_4, ρ_5) H locs ls => 0 ≤ i_3.toInt ∧ i_3.toInt ≤ 4 ∧ TS D cA L T r ry ([] : List (Nat × Nat)) σ σ_4 ρ_5 H ∧ va_S (dm L s.heap.size) s.heap H locs ∧ lv_has ls 5 [(4, .int i_3), (3, .int i_2), (2, .int i_1), (0, .ref h0), (1, .int p1)]) (fun (i_1, i_2, i_3, σ_4, ρ_5) => (4 - i_3.toInt).toNat) ?_ ⟨0, 0, 0, σ, ρ⟩ ⟨(by decide), (by decide), hB, hS, lv_sub hl [0, 1, 2, 3, 4] rfl⟩
  rintro ⟨i_1, i_2, i_3, σ_4, ρ_5⟩ H locs ls ⟨li_3, ui_3, hB, hS, hl⟩ ih_6
  refine lv_iload hx hb dX12_words_7 (lv_at hl 0 rfl) ?_
  refine lv_aload_n hx hb dX12_words_9 rfl (lv_at hl 3 rfl) ?_
  refine t_gr hx hb hts hown hK hG hB mh0 th0 fq_12_20 rfl mw_5_236 dX12_words_10 (fun b_7 hb_7 mb_7 tb_7 => ?_)
  refine lv_iconst (v := 3) hx hb dX12_words_13 (by decide) ?_
  refine t_aj hx hb hK hB mb_7 tb_7 ai_70 (i_in (by decide) (by decide)) dX12_words_14 (fun x_8 ex_8 lx_8 ux_8 => ?_)
  have lx_8 : 0 ≤ x_8.toInt := lx_8
  have ux_8 : x_8.toInt ≤ 4 := ux_8
  have cx_8 := congrArg Int32.toInt ex_8
  refine lv_icmp_ge (tgt := 62) hx hb dX12_words_15 (by decide) (fun c_9 => ?_) (fun c_9 => ?_)
  · skip
    have uc_9 := j_le c_9
    refine lv_aload_n hx hb dX12_words_62 rfl (lv_at hl 3 rfl) ?_
    refine t_gr hx hb hts hown hK hG hB mh0 th0 fq_12_19 rfl mw_5_235 dX12_words_63 (fun b_10 hb_10 mb_10 tb_10 => ?_)
    refine lv_iconst (v := 0) hx hb dX12_words_66 (by decide) ?_
    refine lv_iload_n hx hb dX12_words_67 rfl (lv_at hl 4 rfl) ?_
    refine lv_i2l (v := p1.toInt64) hx hb dX12_words_68 rfl ?_
    refine t_sl hx hb hK hLA hB hS mb_10 tb_10 aj_69 (i_in (by decide) (by decide)) dX12_words_69 (fun H locs ρ_11 eρ_11 hB hS => ?_)
    refine lv_aload_n hx hb dX12_words_70 rfl (lv_at hl 3 rfl) ?_
    refine t_gk hx hb hts hown hK hB mh0 th0 fq_12_19 hb_10 mw_5_235 dX12_words_71 ?_
    refine lv_iconst (v := 1) hx hb dX12_words_74 (by decide) ?_
    refine lv_aload_n hx hb dX12_words_75 rfl (lv_at hl 3 rfl) ?_
    refine lv_iload_n hx hb dX12_words_76 rfl (lv_at hl 4 rfl) ?_
    refine lv_iconst (v := 0) hx hb dX12_words_77 (by decide) ?_
    refine t_ci (va_runV (As := [.int p1, .int 0]) (rest := [.int 1, .ref b_10]) ⟨hx, hb, hml, hown, hts⟩ (cy_X12_sortOf l D cA L T r hG hLA.1 σ_4 ρ_11 hB.2.1 _ h0 mh0 th0 p1 0 (by first | omega | decide) (by first | omega | decide) (by first | omega | decide) (by first | omega | decide)) (cV hts mv_X12_sortOf mw_7_94 rfl rfl ⟨Nat.le_of_ble_eq_true rfl, Nat.le_of_ble_eq_true rfl⟩) (pV hB.1 hK hN mh0 th0 (show shp cA 12 _ _ _ = .inr (12, Fs12 _ _ _) from rfl) rfl) rfl rfl hl.1 rfl (lv_room (Nat.le_of_ble_eq_true rfl)) dX12_words_78 ⟨Nat.le_of_ble_eq_true rfl, Nat.le_of_ble_eq_true rfl⟩) hLA hA hB hS (by decide) (fun x_14 σ_12 ρ_13 H locs hB fσ_12 pσ_12 hS => ?_)
    have qσ_12 := FR.nil fσ_12
    subst qσ_12
    obtain ⟨lx_14, ux_14⟩ := pσ_12
    refine lv_i2l (v := x_14.toInt64) hx hb dX12_words_81 rfl ?_
    refine t_sl hx hb hK hLA hB hS mb_10 tb_10 aj_69 (i_in (by decide) (by decide)) dX12_words_82 (fun H locs ρ_15 eρ_15 hB hS => ?_)
    refine lv_aload_n hx hb dX12_words_83 rfl (lv_at hl 3 rfl) ?_
    refine t_gk hx hb hts hown hK hB mh0 th0 fq_12_19 hb_10 mw_5_235 dX12_words_84 ?_
    refine lv_iconst (v := 2) hx hb dX12_words_87 (by decide) ?_
    refine lv_aload_n hx hb dX12_words_88 rfl (lv_at hl 3 rfl) ?_
    refine lv_iload_n hx hb dX12_words_89 rfl (lv_at hl 4 rfl) ?_
    refine lv_iconst (v := 1) hx hb dX12_words_90 (by decide) ?_
    refine t_ci (va_runV (As := [.int p1, .int 1]) (rest := [.int 2, .ref b_10]) ⟨hx, hb, hml, hown, hts⟩ (cy_X12_sortOf l D cA L T r hG hLA.1 σ_4 ρ_15 hB.2.1 _ h0 mh0 th0 p1 1 (by first | omega | decide) (by first | omega | decide) (by first | omega | decide) (by first | omega | decide)) (cV hts mv_X12_sortOf mw_7_94 rfl rfl ⟨Nat.le_of_ble_eq_true rfl, Nat.le_of_ble_eq_true rfl⟩) (pV hB.1 hK hN mh0 th0 (show shp cA 12 _ _ _ = .inr (12, Fs12 _ _ _) from rfl) rfl) rfl rfl hl.1 rfl (lv_room (Nat.le_of_ble_eq_true rfl)) dX12_words_91 ⟨Nat.le_of_ble_eq_true rfl, Nat.le_of_ble_eq_true rfl⟩) hLA hA hB hS (by decide) (fun x_18 σ_16 ρ_17 H locs hB fσ_16 pσ_16 hS => ?_)
    have qσ_16 := FR.nil fσ_16
    subst qσ_16
    obtain ⟨lx_18, ux_18⟩ := pσ_16
    refine lv_i2l (v := x_18.toInt64) hx hb dX12_words_94 rfl ?_
    refine t_sl hx hb hK hLA hB hS mb_10 tb_10 aj_69 (i_in (by decide) (by decide)) dX12_words_95 (fun H locs ρ_19 eρ_19 hB hS => ?_)
    refine lv_aload_n hx hb dX12_words_96 rfl (lv_at hl 3 rfl) ?_
    refine t_gk hx hb hts hown hK hB mh0 th0 fq_12_19 hb_10 mw_5_235 dX12_words_97 ?_
    refine lv_iconst (v := 3) hx hb dX12_words_100 (by decide) ?_
    refine lv_aload_n hx hb dX12_words_101 rfl (lv_at hl 3 rfl) ?_
    refine lv_iload_n hx hb dX12_words_102 rfl (lv_at hl 4 rfl) ?_
    refine t_ci (va_runV (As := [.int p1]) (rest := [.int 3, .ref b_10]) ⟨hx, hb, hml, hown, hts⟩ (cy_X12_asksFor l D cA L T r hG hLA.1 σ_4 ρ_19 hB.2.1 _ h0 mh0 th0 p1 (by first | omega | decide) (by first | omega | decide)) (cV hts mv_X12_asksFor mw_7_98 rfl rfl ⟨Nat.le_of_ble_eq_true rfl, Nat.le_of_ble_eq_true rfl⟩) (pV hB.1 hK hN mh0 th0 (show shp cA 12 _ _ _ = .inr (12, Fs12 _ _ _) from rfl) rfl) rfl rfl hl.1 rfl (lv_room (Nat.le_of_ble_eq_true rfl)) dX12_words_103 ⟨Nat.le_of_ble_eq_true rfl, Nat.le_of_ble_eq_true rfl⟩) hLA hA hB hS (by decide) (fun x_22 σ_20 ρ_21 H locs hB fσ_20 pσ_20 hS => ?_)
    have qσ_20 := FR.nil fσ_20
    subst qσ_20
    obtain ⟨lx_22, ux_22⟩ := pσ_20
    refine lv_i2l (v := x_22.toInt64) hx hb dX12_words_106 rfl ?_
    refine t_sl hx hb hK hLA hB hS mb_10 tb_10 aj_69 (i_in (by decide) (by decide)) dX12_words_107 (fun H locs ρ_23 eρ_23 hB hS => ?_)
    refine lv_aload_n hx hb dX12_words_108 rfl (lv_at hl 3 rfl) ?_
    refine t_gk hx hb hts hown hK hB mh0 th0 fq_12_19 hb_10 mw_5_235 dX12_words_109 ?_
    refine lv_iconst (v := 4) hx hb dX12_words_112 (by decide) ?_
    refine lv_aload_n hx hb dX12_words_113 rfl (lv_at hl 3 rfl) ?_
    refine t_gk hx hb hts hown hK hB mh0 th0 fq_12_20 hb_7 mw_5_236 dX12_words_114 ?_
    refine lv_iconst (v := 4) hx hb dX12_words_117 (by decide) ?_
    refine t_aj hx hb hK hB mb_7 tb_7 ai_70 (i_in (by decide) (by decide)) dX12_words_118 (fun x_24 ex_24 lx_24 ux_24 => ?_)
    have lx_24 : (-2147483648) ≤ x_24.toInt := lx_24
    have ux_24 : x_24.toInt ≤ 2147483647 := ux_24
    have cx_24 := congrArg Int32.toInt ex_24
    refine lv_i2l (v := x_24.toInt64) hx hb dX12_words_119 rfl ?_
    refine t_sl hx hb hK hLA hB hS mb_10 tb_10 aj_69 (i_in (by decide) (by decide)) dX12_words_120 (fun H locs ρ_25 eρ_25 hB hS => ?_)
    refine lv_aload_n hx hb dX12_words_121 rfl (lv_at hl 3 rfl) ?_
    refine t_gk hx hb hts hown hK hB mh0 th0 fq_12_19 hb_10 mw_5_235 dX12_words_122 ?_
    refine lv_iconst (v := 5) hx hb dX12_words_125 (by decide) ?_
    refine lv_aload_n hx hb dX12_words_126 rfl (lv_at hl 3 rfl) ?_
    refine lv_iload_n hx hb dX12_words_127 rfl (lv_at hl 4 rfl) ?_
    refine lv_aload_n hx hb dX12_words_128 rfl (lv_at hl 3 rfl) ?_
    refine lv_iload_n hx hb dX12_words_129 rfl (lv_at hl 4 rfl) ?_
    refine lv_iconst (v := 0) hx hb dX12_words_130 (by decide) ?_
    refine t_ci (va_runV (As := [.int p1, .int 0]) (rest := [.int p1, .ref h0, .int 5, .ref b_10]) ⟨hx, hb, hml, hown, hts⟩ (cy_X12_sortOf l D cA L T r hG hLA.1 σ_4 ρ_25 hB.2.1 _ h0 mh0 th0 p1 0 (by first | omega | decide) (by first | omega | decide) (by first | omega | decide) (by first | omega | decide)) (cV hts mv_X12_sortOf mw_7_94 rfl rfl ⟨Nat.le_of_ble_eq_true rfl, Nat.le_of_ble_eq_true rfl⟩) (pV hB.1 hK hN mh0 th0 (show shp cA 12 _ _ _ = .inr (12, Fs12 _ _ _) from rfl) rfl) rfl rfl hl.1 rfl (lv_room (Nat.le_of_ble_eq_true rfl)) dX12_words_131 ⟨Nat.le_of_ble_eq_true rfl, Nat.le_of_ble_eq_true rfl⟩) hLA hA hB hS (by decide) (fun x_28 σ_26 ρ_27 H locs hB fσ_26 pσ_26 hS => ?_)
    have qσ_26 := FR.nil fσ_26
    subst qσ_26
    obtain ⟨lx_28, ux_28⟩ := pσ_26
    refine t_ci (va_runV (As := [.int p1, .int x_28]) (rest := [.int 5, .ref b_10]) ⟨hx, hb, hml, hown, hts⟩ (cy_X12_heapOf l D cA L T r hG hLA.1 σ_4 ρ_27 hB.2.1 _ h0 mh0 th0 p1 x_28 (by first | omega | decide) (by first | omega | decide) (by first | omega | decide) (by first | omega | decide)) (cV hts mv_X12_heapOf mw_7_102 rfl rfl ⟨Nat.le_of_ble_eq_true rfl, Nat.le_of_ble_eq_true rfl⟩) (pV hB.1 hK hN mh0 th0 (show shp cA 12 _ _ _ = .inr (12, Fs12 _ _ _) from rfl) rfl) rfl rfl hl.1 rfl (lv_room (Nat.le_of_ble_eq_true rfl)) dX12_words_134 ⟨Nat.le_of_ble_eq_true rfl, Nat.le_of_ble_eq_true rfl⟩) hLA hA hB hS (by decide) (fun x_31 σ_29 ρ_30 H locs hB fσ_29 pσ_29 hS => ?_)
    have qσ_29 := FR.nil fσ_29
    subst qσ_29
    obtain ⟨lx_31, ux_31⟩ := pσ_29
    refine lv_i2l (v := x_31.toInt64) hx hb dX12_words_137 rfl ?_
    refine t_sl hx hb hK hLA hB hS mb_10 tb_10 aj_69 (i_in (by decide) (by decide)) dX12_words_138 (fun H locs ρ_32 eρ_32 hB hS => ?_)
    refine lv_aload_n hx hb dX12_words_139 rfl (lv_at hl 3 rfl) ?_
    refine t_gk hx hb hts hown hK hB mh0 th0 fq_12_19 hb_10 mw_5_235 dX12_words_140 ?_
    refine lv_bipush (v := 6) hx hb dX12_words_143 (by decide) ?_
    refine lv_aload_n hx hb dX12_words_145 rfl (lv_at hl 3 rfl) ?_
    refine lv_iload_n hx hb dX12_words_146 rfl (lv_at hl 4 rfl) ?_
    refine lv_aload_n hx hb dX12_words_147 rfl (lv_at hl 3 rfl) ?_
    refine lv_iload_n hx hb dX12_words_148 rfl (lv_at hl 4 rfl) ?_
    refine lv_iconst (v := 1) hx hb dX12_words_149 (by decide) ?_
    refine t_ci (va_runV (As := [.int p1, .int 1]) (rest := [.int p1, .ref h0, .int 6, .ref b_10]) ⟨hx, hb, hml, hown, hts⟩ (cy_X12_sortOf l D cA L T r hG hLA.1 σ_4 ρ_32 hB.2.1 _ h0 mh0 th0 p1 1 (by first | omega | decide) (by first | omega | decide) (by first | omega | decide) (by first | omega | decide)) (cV hts mv_X12_sortOf mw_7_94 rfl rfl ⟨Nat.le_of_ble_eq_true rfl, Nat.le_of_ble_eq_true rfl⟩) (pV hB.1 hK hN mh0 th0 (show shp cA 12 _ _ _ = .inr (12, Fs12 _ _ _) from rfl) rfl) rfl rfl hl.1 rfl (lv_room (Nat.le_of_ble_eq_true rfl)) dX12_words_150 ⟨Nat.le_of_ble_eq_true rfl, Nat.le_of_ble_eq_true rfl⟩) hLA hA hB hS (by decide) (fun x_35 σ_33 ρ_34 H locs hB fσ_33 pσ_33 hS => ?_)
    have qσ_33 := FR.nil fσ_33
    subst qσ_33
    obtain ⟨lx_35, ux_35⟩ := pσ_33
    refine t_ci (va_runV (As := [.int p1, .int x_35]) (rest := [.int 6, .ref b_10]) ⟨hx, hb, hml, hown, hts⟩ (cy_X12_heapOf l D cA L T r hG hLA.1 σ_4 ρ_34 hB.2.1 _ h0 mh0 th0 p1 x_35 (by first | omega | decide) (by first | omega | decide) (by first | omega | decide) (by first | omega | decide)) (cV hts mv_X12_heapOf mw_7_102 rfl rfl ⟨Nat.le_of_ble_eq_true rfl, Nat.le_of_ble_eq_true rfl⟩) (pV hB.1 hK hN mh0 th0 (show shp cA 12 _ _ _ = .inr (12, Fs12 _ _ _) from rfl) rfl) rfl rfl hl.1 rfl (lv_room (Nat.le_of_ble_eq_true rfl)) dX12_words_153 ⟨Nat.le_of_ble_eq_true rfl, Nat.le_of_ble_eq_true rfl⟩) hLA hA hB hS (by decide) (fun x_38 σ_36 ρ_37 H locs hB fσ_36 pσ_36 hS => ?_)
    have qσ_36 := FR.nil fσ_36
    subst qσ_36
    obtain ⟨lx_38, ux_38⟩ := pσ_36
    refine lv_i2l (v := x_38.toInt64) hx hb dX12_words_156 rfl ?_
    refine t_sl hx hb hK hLA hB hS mb_10 tb_10 aj_69 (i_in (by decide) (by decide)) dX12_words_157 (fun H locs ρ_39 eρ_39 hB hS => ?_)
    refine lv_aload_n hx hb dX12_words_158 rfl (lv_at hl 3 rfl) ?_
    refine t_gk hx hb hts hown hK hB mh0 th0 fq_12_19 hb_10 mw_5_235 dX12_words_159 ?_
    refine lv_bipush (v := 7) hx hb dX12_words_162 (by decide) ?_
    refine lv_aload_n hx hb dX12_words_164 rfl (lv_at hl 3 rfl) ?_
    refine lv_iload_n hx hb dX12_words_165 rfl (lv_at hl 4 rfl) ?_
    refine t_ci (va_runV (As := [.int p1]) (rest := [.int 7, .ref b_10]) ⟨hx, hb, hml, hown, hts⟩ (cy_X12_heapMany l D cA L T r hG hLA.1 σ_4 ρ_39 hB.2.1 _ h0 mh0 th0 p1 (by first | omega | decide) (by first | omega | decide)) (cV hts mv_X12_heapMany mw_7_139 rfl rfl ⟨Nat.le_of_ble_eq_true rfl, Nat.le_of_ble_eq_true rfl⟩) (pV hB.1 hK hN mh0 th0 (show shp cA 12 _ _ _ = .inr (12, Fs12 _ _ _) from rfl) rfl) rfl rfl hl.1 rfl (lv_room (Nat.le_of_ble_eq_true rfl)) dX12_words_166 ⟨Nat.le_of_ble_eq_true rfl, Nat.le_of_ble_eq_true rfl⟩) hLA hA hB hS (by decide) (fun x_42 σ_40 ρ_41 H locs hB fσ_40 pσ_40 hS => ?_)
    have qσ_40 := FR.nil fσ_40
    subst qσ_40
    refine lv_i2l (v := x_42.toInt64) hx hb dX12_words_169 rfl ?_
    refine t_sl hx hb hK hLA hB hS mb_10 tb_10 aj_69 (i_in (by decide) (by decide)) dX12_words_170 (fun H locs ρ_43 eρ_43 hB hS => ?_)
    refine lv_aload_n hx hb dX12_words_171 rfl (lv_at hl 3 rfl) ?_
    refine t_gk hx hb hts hown hK hB mh0 th0 fq_12_19 hb_10 mw_5_235 dX12_words_172 ?_
    refine lv_bipush (v := 8) hx hb dX12_words_175 (by decide) ?_
    refine lv_iload_n hx hb dX12_words_177 rfl (lv_at hl 2 rfl) ?_
    refine lv_i2l (v := i_1.toInt64) hx hb dX12_words_178 rfl ?_
    refine t_sl hx hb hK hLA hB hS mb_10 tb_10 aj_69 (i_in (by decide) (by decide)) dX12_words_179 (fun H locs ρ_44 eρ_44 hB hS => ?_)
    refine lv_aload_n hx hb dX12_words_180 rfl (lv_at hl 3 rfl) ?_
    refine t_gk hx hb hts hown hK hB mh0 th0 fq_12_19 hb_10 mw_5_235 dX12_words_181 ?_
    refine lv_bipush (v := 9) hx hb dX12_words_184 (by decide) ?_
    refine lv_iload_n hx hb dX12_words_186 rfl (lv_at hl 1 rfl) ?_
    refine lv_i2l (v := i_2.toInt64) hx hb dX12_words_187 rfl ?_
    refine t_sl hx hb hK hLA hB hS mb_10 tb_10 aj_69 (i_in (by decide) (by decide)) dX12_words_188 (fun H locs ρ_45 eρ_45 hB hS => ?_)
    exact W.vret hx hb hr (fun t ht hW => ⟨⟨(σ_4, ρ_45), rfl, ⟨hB.2.1, hB.2.2, trivial⟩, (show TP D cA L T r σ_4 ρ_45 t.heap from by rw [ht]; exact hB.1)⟩, hS.F ht⟩) hS.2.2 dX12_words_189
  · skip
    have uc_9 := j_nle c_9
    refine lv_iload_n hx hb dX12_words_18 rfl (lv_at hl 2 rfl) ?_
    refine lv_aload_n hx hb dX12_words_19 rfl (lv_at hl 3 rfl) ?_
    refine lv_iload hx hb dX12_words_20 (lv_at hl 0 rfl) ?_
    refine lv_iconst (v := 0) hx hb dX12_words_22 (by decide) ?_
    refine t_ci (va_runV (As := [.int i_3, .int 0]) (rest := [.int i_1]) ⟨hx, hb, hml, hown, hts⟩ (cy_X12_pilgrimOf_0x l D cA L T r hG hLA.1 σ_4 ρ_5 hB.2.1 _ h0 mh0 th0 i_3 b_7 hb_7 mb_7 tb_7 (by first | omega | decide) (by first | omega | decide)) (cV hts mv_X12_pilgrimOf mw_7_69 rfl rfl ⟨Nat.le_of_ble_eq_true rfl, Nat.le_of_ble_eq_true rfl⟩) (pV hB.1 hK hN mh0 th0 (show shp cA 12 _ _ _ = .inr (12, Fs12 _ _ _) from rfl) rfl) rfl rfl hl.1 rfl (lv_room (Nat.le_of_ble_eq_true rfl)) dX12_words_23 ⟨Nat.le_of_ble_eq_true rfl, Nat.le_of_ble_eq_true rfl⟩) hLA hA hB hS (by decide) (fun x_48 σ_46 ρ_47 H locs hB fσ_46 pσ_46 hS => ?_)
    have qσ_46 := FR.nil fσ_46
    subst qσ_46
    obtain ⟨g_49, g_50⟩ := pσ_46
    have dx_48 := congrArg Int32.toInt g_50
    obtain ⟨lx_48, ux_48⟩ := g_49
    refine lv_iload_n hx hb dX12_words_26 rfl (lv_at hl 4 rfl) ?_
    refine lv_icmp_le (tgt := 34) hx hb dX12_words_27 (by decide) (fun c_51 => ?_) (fun c_51 => ?_)
    · skip
      have uc_51 := j_le c_51
      refine lv_iconst (v := 0) hx hb dX12_words_34 (by decide) ?_
      refine lv_iadd hx hb dX12_words_35 ?_
      refine lv_topi (fun x_52 ex_52 => ?_)
      try have vx_52 := b_add (rfl : i_1.toInt = _) (by decide : (0 : Int32).toInt = 0) ex_52 (by omega) (by omega)
      refine lv_istore_n (lv' := [(2, .int x_52), (4, .int i_3), (3, .int i_2), (0, .ref h0), (1, .int p1)]) hx hb dX12_words_36 rfl hl (by decide) rfl (fun ls hl => ?_)
      refine lv_iload_n hx hb dX12_words_37 rfl (lv_at hl 2 rfl) ?_
      refine lv_aload_n hx hb dX12_words_38 rfl (lv_at hl 3 rfl) ?_
      refine lv_iload hx hb dX12_words_39 (lv_at hl 1 rfl) ?_
      refine lv_iconst (v := 0) hx hb dX12_words_41 (by decide) ?_
      refine t_ci (va_runV (As := [.int i_3, .int 0]) (rest := [.int i_2]) ⟨hx, hb, hml, hown, hts⟩ (cy_X12_pilgrimOf_0x l D cA L T r hG hLA.1 σ_4 ρ_47 hB.2.1 _ h0 mh0 th0 i_3 b_7 hb_7 mb_7 tb_7 (by first | omega | decide) (by first | omega | decide)) (cV hts mv_X12_pilgrimOf mw_7_69 rfl rfl ⟨Nat.le_of_ble_eq_true rfl, Nat.le_of_ble_eq_true rfl⟩) (pV hB.1 hK hN mh0 th0 (show shp cA 12 _ _ _ = .inr (12, Fs12 _ _ _) from rfl) rfl) rfl rfl hl.1 rfl (lv_room (Nat.le_of_ble_eq_true rfl)) dX12_words_42 ⟨Nat.le_of_ble_eq_true rfl, Nat.le_of_ble_eq_true rfl⟩) hLA hA hB hS (by decide) (fun x_55 σ_53 ρ_54 H locs hB fσ_53 pσ_53 hS => ?_)
      have qσ_53 := FR.nil fσ_53
      subst qσ_53
      obtain ⟨g_56, g_57⟩ := pσ_53
      have dx_55 := congrArg Int32.toInt g_57
      obtain ⟨lx_55, ux_55⟩ := g_56
      refine lv_iload_n hx hb dX12_words_45 rfl (lv_at hl 4 rfl) ?_
      refine lv_icmp_ne (tgt := 53) hx hb dX12_words_46 (by decide) (fun c_58 => ?_) (fun c_58 => ?_)
      · skip
        have uc_58 := j_ne c_58
        refine lv_iconst (v := 0) hx hb dX12_words_53 (by decide) ?_
        refine lv_iadd hx hb dX12_words_54 ?_
        refine lv_topi (fun x_59 ex_59 => ?_)
        try have vx_59 := b_add (rfl : i_2.toInt = _) (by decide : (0 : Int32).toInt = 0) ex_59 (by omega) (by omega)
        refine lv_istore_n (lv' := [(3, .int x_59), (2, .int x_52), (4, .int i_3), (0, .ref h0), (1, .int p1)]) hx hb dX12_words_55 rfl hl (by decide) rfl (fun ls hl => ?_)
        obtain ⟨x_60, ex_60⟩ : ∃ y : Int32, y = i_3 + 1 := ⟨_, rfl⟩
        have vx_60 := b_add (rfl : i_3.toInt = _) (by decide : (1 : Int32).toInt = 1) ex_60 (by omega) (by omega)
        refine lv_iinc (v := x_60) (lv' := [(4, .int x_60), (3, .int x_59), (2, .int x_52), (0, .ref h0), (1, .int p1)]) hx hb dX12_words_56 hl (k := 2) rfl (by rw [ex_60]; rfl) (by decide) rfl (fun ls hl => ?_)
        refine lv_goto (tgt := 7) hx hb dX12_words_59 (by decide) ?_
        exact ih_6 ⟨x_52, x_59, x_60, σ_4, ρ_54⟩ _ _ _ ⟨(by omega), (by omega), hB, hS, lv_sub hl [0, 1, 2, 3, 4] rfl⟩ (by show (4 - x_60.toInt).toNat < (4 - i_3.toInt).toNat; omega)
      · skip
        have uc_58 := j_eq c_58
        refine lv_iconst (v := 1) hx hb dX12_words_49 (by decide) ?_
        refine lv_goto (tgt := 54) hx hb dX12_words_50 (by decide) ?_
        refine lv_iadd hx hb dX12_words_54 ?_
        refine lv_topi (fun x_61 ex_61 => ?_)
        try have vx_61 := b_add (rfl : i_2.toInt = _) (by decide : (1 : Int32).toInt = 1) ex_61 (by omega) (by omega)
        refine lv_istore_n (lv' := [(3, .int x_61), (2, .int x_52), (4, .int i_3), (0, .ref h0), (1, .int p1)]) hx hb dX12_words_55 rfl hl (by decide) rfl (fun ls hl => ?_)
        obtain ⟨x_62, ex_62⟩ : ∃ y : Int32, y = i_3 + 1 := ⟨_, rfl⟩
        have vx_62 := b_add (rfl : i_3.toInt = _) (by decide : (1 : Int32).toInt = 1) ex_62 (by omega) (by omega)
        refine lv_iinc (v := x_62) (lv' := [(4, .int x_62), (3, .int x_61), (2, .int x_52), (0, .ref h0), (1, .int p1)]) hx hb dX12_words_56 hl (k := 2) rfl (by rw [ex_62]; rfl) (by decide) rfl (fun ls hl => ?_)
        refine lv_goto (tgt := 7) hx hb dX12_words_59 (by decide) ?_
        exact ih_6 ⟨x_52, x_61, x_62, σ_4, ρ_54⟩ _ _ _ ⟨(by omega), (by omega), hB, hS, lv_sub hl [0, 1, 2, 3, 4] rfl⟩ (by show (4 - x_62.toInt).toNat < (4 - i_3.toInt).toNat; omega)
    · skip
      have uc_51 := j_nle c_51
      refine lv_iconst (v := 1) hx hb dX12_words_30 (by decide) ?_
      refine lv_goto (tgt := 35) hx hb dX12_words_31 (by decide) ?_
      refine lv_iadd hx hb dX12_words_35 ?_
      refine lv_topi (fun x_63 ex_63 => ?_)
      try have vx_63 := b_add (rfl : i_1.toInt = _) (by decide : (1 : Int32).toInt = 1) ex_63 (by omega) (by omega)
      refine lv_istore_n (lv' := [(2, .int x_63), (4, .int i_3), (3, .int i_2), (0, .ref h0), (1, .int p1)]) hx hb dX12_words_36 rfl hl (by decide) rfl (fun ls hl => ?_)
      refine lv_iload_n hx hb dX12_words_37 rfl (lv_at hl 2 rfl) ?_
      refine lv_aload_n hx hb dX12_words_38 rfl (lv_at hl 3 rfl) ?_
      refine lv_iload hx hb dX12_words_39 (lv_at hl 1 rfl) ?_
      refine lv_iconst (v := 0) hx hb dX12_words_41 (by decide) ?_
      refine t_ci (va_runV (As := [.int i_3, .int 0]) (rest := [.int i_2]) ⟨hx, hb, hml, hown, hts⟩ (cy_X12_pilgrimOf_0x l D cA L T r hG hLA.1 σ_4 ρ_47 hB.2.1 _ h0 mh0 th0 i_3 b_7 hb_7 mb_7 tb_7 (by first | omega | decide) (by first | omega | decide)) (cV hts mv_X12_pilgrimOf mw_7_69 rfl rfl ⟨Nat.le_of_ble_eq_true rfl, Nat.le_of_ble_eq_true rfl⟩) (pV hB.1 hK hN mh0 th0 (show shp cA 12 _ _ _ = .inr (12, Fs12 _ _ _) from rfl) rfl) rfl rfl hl.1 rfl (lv_room (Nat.le_of_ble_eq_true rfl)) dX12_words_42 ⟨Nat.le_of_ble_eq_true rfl, Nat.le_of_ble_eq_true rfl⟩) hLA hA hB hS (by decide) (fun x_66 σ_64 ρ_65 H locs hB fσ_64 pσ_64 hS => ?_)
      have qσ_64 := FR.nil fσ_64
      subst qσ_64
      obtain ⟨g_67, g_68⟩ := pσ_64
      have dx_66 := congrArg Int32.toInt g_68
      obtain ⟨lx_66, ux_66⟩ := g_67
      refine lv_iload_n hx hb dX12_words_45 rfl (lv_at hl 4 rfl) ?_
      refine lv_icmp_ne (tgt := 53) hx hb dX12_words_46 (by decide) (fun c_69 => ?_) (fun c_69 => ?_)
      · skip
        have uc_69 := j_ne c_69
        refine lv_iconst (v := 0) hx hb dX12_words_53 (by decide) ?_
        refine lv_iadd hx hb dX12_words_54 ?_
        refine lv_topi (fun x_70 ex_70 => ?_)
        try have vx_70 := b_add (rfl : i_2.toInt = _) (by decide : (0 : Int32).toInt = 0) ex_70 (by omega) (by omega)
        refine lv_istore_n (lv' := [(3, .int x_70), (2, .int x_63), (4, .int i_3), (0, .ref h0), (1, .int p1)]) hx hb dX12_words_55 rfl hl (by decide) rfl (fun ls hl => ?_)
        obtain ⟨x_71, ex_71⟩ : ∃ y : Int32, y = i_3 + 1 := ⟨_, rfl⟩
        have vx_71 := b_add (rfl : i_3.toInt = _) (by decide : (1 : Int32).toInt = 1) ex_71 (by omega) (by omega)
        refine lv_iinc (v := x_71) (lv' := [(4, .int x_71), (3, .int x_70), (2, .int x_63), (0, .ref h0), (1, .int p1)]) hx hb dX12_words_56 hl (k := 2) rfl (by rw [ex_71]; rfl) (by decide) rfl (fun ls hl => ?_)
        refine lv_goto (tgt := 7) hx hb dX12_words_59 (by decide) ?_
        exact ih_6 ⟨x_63, x_70, x_71, σ_4, ρ_65⟩ _ _ _ ⟨(by omega), (by omega), hB, hS, lv_sub hl [0, 1, 2, 3, 4] rfl⟩ (by show (4 - x_71.toInt).toNat < (4 - i_3.toInt).toNat; omega)
      · skip
        have uc_69 := j_eq c_69
        refine lv_iconst (v := 1) hx hb dX12_words_49 (by decide) ?_
        refine lv_goto (tgt := 54) hx hb dX12_words_50 (by decide) ?_
        refine lv_iadd hx hb dX12_words_54 ?_
        refine lv_topi (fun x_72 ex_72 => ?_)
        try have vx_72 := b_add (rfl : i_2.toInt = _) (by decide : (1 : Int32).toInt = 1) ex_72 (by omega) (by omega)
        refine lv_istore_n (lv' := [(3, .int x_72), (2, .int x_63), (4, .int i_3), (0, .ref h0), (1, .int p1)]) hx hb dX12_words_55 rfl hl (by decide) rfl (fun ls hl => ?_)
        obtain ⟨x_73, ex_73⟩ : ∃ y : Int32, y = i_3 + 1 := ⟨_, rfl⟩
        have vx_73 := b_add (rfl : i_3.toInt = _) (by decide : (1 : Int32).toInt = 1) ex_73 (by omega) (by omega)
        refine lv_iinc (v := x_73) (lv' := [(4, .int x_73), (3, .int x_72), (2, .int x_63), (0, .ref h0), (1, .int p1)]) hx hb dX12_words_56 hl (k := 2) rfl (by rw [ex_73]; rfl) (by decide) rfl (fun ls hl => ?_)
        refine lv_goto (tgt := 7) hx hb dX12_words_59 (by decide) ?_
        exact ih_6 ⟨x_63, x_72, x_73, σ_4, ρ_65⟩ _ _ _ ⟨(by omega), (by omega), hB, hS, lv_sub hl [0, 1, 2, 3, 4] rfl⟩ (by show (4 - x_73.toInt).toNat < (4 - i_3.toInt).toNat; omega)
theorem mw_5_239 : (.fieldLink RX12 46 "HillBendsModel" "turnNext" "[I" : Cond) ∈ wsA := wsA_t (List.mem_append_right _ (List.mem_append_right _ (List.mem_append_right _ (List.mem_append_right _ (List.mem_append_left _ (List.mem_of_getElem? (l := tables_1_5) (i := 239) rfl)))))) rfl
theorem mw_7_137 : (.instanceMethod yX12_words : Cond) ∈ wsA := wsA_t (List.mem_append_right _ (List.mem_append_right _ (List.mem_append_right _ (List.mem_append_right _ (List.mem_append_right _ (List.mem_append_right _ (List.mem_append_left _ (List.mem_of_getElem? (l := tables_1_7) (i := 137) rfl)))))))) rfl
theorem mp_6_11 : (.selects RX12 yX12_words yX12_words : Cond) ∈ wsA := wsA_p (q := (yX12_words, 44)) (List.mem_append_right _ (List.mem_append_right _ (List.mem_append_right _ (List.mem_append_right _ (List.mem_append_right _ (List.mem_append_left _ (List.mem_of_getElem? (l := lw_privs_6) (i := 11) rfl)))))))
theorem mw_7_138 : (.code yX12_words cX12_words 5 none : Cond) ∈ wsA := wsA_t (List.mem_append_right _ (List.mem_append_right _ (List.mem_append_right _ (List.mem_append_right _ (List.mem_append_right _ (List.mem_append_right _ (List.mem_append_left _ (List.mem_of_getElem? (l := tables_1_7) (i := 138) rfl)))))))) rfl
theorem mw_7_135 : (.methodLink RX12 347 yX12_words : Cond) ∈ wsA := wsA_t (List.mem_append_right _ (List.mem_append_right _ (List.mem_append_right _ (List.mem_append_right _ (List.mem_append_right _ (List.mem_append_right _ (List.mem_append_left _ (List.mem_of_getElem? (l := tables_1_7) (i := 135) rfl)))))))) rfl
theorem mw_7_145 : (.instanceMethod yX12_summedBy : Cond) ∈ wsA := wsA_t (List.mem_append_right _ (List.mem_append_right _ (List.mem_append_right _ (List.mem_append_right _ (List.mem_append_right _ (List.mem_append_right _ (List.mem_append_left _ (List.mem_of_getElem? (l := tables_1_7) (i := 145) rfl)))))))) rfl
theorem mp_6_13 : (.selects RX12 yX12_summedBy yX12_summedBy : Cond) ∈ wsA := wsA_p (q := (yX12_summedBy, 44)) (List.mem_append_right _ (List.mem_append_right _ (List.mem_append_right _ (List.mem_append_right _ (List.mem_append_right _ (List.mem_append_left _ (List.mem_of_getElem? (l := lw_privs_6) (i := 13) rfl)))))))
theorem mw_7_146 : (.code yX12_summedBy cX12_summedBy 4 (some .long) : Cond) ∈ wsA := wsA_t (List.mem_append_right _ (List.mem_append_right _ (List.mem_append_right _ (List.mem_append_right _ (List.mem_append_right _ (List.mem_append_right _ (List.mem_append_left _ (List.mem_of_getElem? (l := tables_1_7) (i := 146) rfl)))))))) rfl
theorem mw_7_143 : (.methodLink RX12 350 yX12_summedBy : Cond) ∈ wsA := wsA_t (List.mem_append_right _ (List.mem_append_right _ (List.mem_append_right _ (List.mem_append_right _ (List.mem_append_right _ (List.mem_append_right _ (List.mem_append_left _ (List.mem_of_getElem? (l := tables_1_7) (i := 143) rfl)))))))) rfl
theorem dX12_passes_0 : decode cX12_passes 0 = .ok (.iconst 0, 1) := by decide +kernel
theorem dX12_passes_1 : decode cX12_passes 1 = .ok (.istore_n 1, 1) := by decide +kernel
theorem dX12_passes_2 : decode cX12_passes 2 = .ok (.iconst 0, 1) := by decide +kernel
theorem dX12_passes_3 : decode cX12_passes 3 = .ok (.istore_n 2, 1) := by decide +kernel
theorem dX12_passes_4 : decode cX12_passes 4 = .ok (.iload_n 2, 1) := by decide +kernel
theorem dX12_passes_5 : decode cX12_passes 5 = .ok (.aload_n 0, 1) := by decide +kernel
theorem dX12_passes_6 : decode cX12_passes 6 = .ok (.getfield 39, 3) := by decide +kernel
theorem dX12_passes_9 : decode cX12_passes 9 = .ok (.iconst 2, 1) := by decide +kernel
theorem dX12_passes_10 : decode cX12_passes 10 = .ok (.iaload, 1) := by decide +kernel
theorem dX12_passes_11 : decode cX12_passes 11 = .ok (.if_icmp .ge 62, 3) := by decide +kernel
theorem dX12_passes_14 : decode cX12_passes 14 = .ok (.aload_n 0, 1) := by decide +kernel
theorem dX12_passes_15 : decode cX12_passes 15 = .ok (.getfield 46, 3) := by decide +kernel
theorem dX12_passes_18 : decode cX12_passes 18 = .ok (.iload_n 2, 1) := by decide +kernel
theorem dX12_passes_19 : decode cX12_passes 19 = .ok (.iconst 1, 1) := by decide +kernel
theorem dX12_passes_20 : decode cX12_passes 20 = .ok (.aload_n 0, 1) := by decide +kernel
theorem dX12_passes_21 : decode cX12_passes 21 = .ok (.getfield 39, 3) := by decide +kernel
theorem dX12_passes_24 : decode cX12_passes 24 = .ok (.bipush 10, 2) := by decide +kernel
theorem dX12_passes_26 : decode cX12_passes 26 = .ok (.iload_n 2, 1) := by decide +kernel
theorem dX12_passes_27 : decode cX12_passes 27 = .ok (.iadd, 1) := by decide +kernel
theorem dX12_passes_28 : decode cX12_passes 28 = .ok (.iaload, 1) := by decide +kernel
theorem dX12_passes_29 : decode cX12_passes 29 = .ok (.isub, 1) := by decide +kernel
theorem dX12_passes_30 : decode cX12_passes 30 = .ok (.iastore, 1) := by decide +kernel
theorem dX12_passes_31 : decode cX12_passes 31 = .ok (.aload_n 0, 1) := by decide +kernel
theorem dX12_passes_32 : decode cX12_passes 32 = .ok (.getfield 42, 3) := by decide +kernel
theorem dX12_passes_35 : decode cX12_passes 35 = .ok (.ifCond .lt 32, 3) := by decide +kernel
theorem dX12_passes_67 : decode cX12_passes 67 = .ok (.iinc 2 1, 3) := by decide +kernel
theorem dX12_passes_70 : decode cX12_passes 70 = .ok (.goto (-66), 3) := by decide +kernel
theorem dX12_passes_38 : decode cX12_passes 38 = .ok (.aload_n 0, 1) := by decide +kernel
theorem dX12_passes_39 : decode cX12_passes 39 = .ok (.iload_n 2, 1) := by decide +kernel
theorem dX12_passes_40 : decode cX12_passes 40 = .ok (.invokevirtual 347, 3) := by decide +kernel
theorem dX12_passes_43 : decode cX12_passes 43 = .ok (.aload_n 0, 1) := by decide +kernel
theorem dX12_passes_44 : decode cX12_passes 44 = .ok (.getfield 46, 3) := by decide +kernel
theorem dX12_passes_47 : decode cX12_passes 47 = .ok (.iload_n 2, 1) := by decide +kernel
theorem dX12_passes_48 : decode cX12_passes 48 = .ok (.aload_n 0, 1) := by decide +kernel
theorem dX12_passes_49 : decode cX12_passes 49 = .ok (.aload_n 0, 1) := by decide +kernel
theorem dX12_passes_50 : decode cX12_passes 50 = .ok (.getfield 42, 3) := by decide +kernel
theorem dX12_passes_53 : decode cX12_passes 53 = .ok (.invokevirtual 350, 3) := by decide +kernel
theorem dX12_passes_56 : decode cX12_passes 56 = .ok (.lconst 0, 1) := by decide +kernel
theorem dX12_passes_57 : decode cX12_passes 57 = .ok (.lcmp, 1) := by decide +kernel
theorem dX12_passes_58 : decode cX12_passes 58 = .ok (.ifCond .le 7, 3) := by decide +kernel
theorem dX12_passes_65 : decode cX12_passes 65 = .ok (.iconst 1, 1) := by decide +kernel
theorem dX12_passes_66 : decode cX12_passes 66 = .ok (.iastore, 1) := by decide +kernel
theorem dX12_passes_61 : decode cX12_passes 61 = .ok (.iconst 0, 1) := by decide +kernel
theorem dX12_passes_62 : decode cX12_passes 62 = .ok (.goto 4, 3) := by decide +kernel
theorem dX12_passes_73 : decode cX12_passes 73 = .ok (.iconst 0, 1) := by decide +kernel
theorem dX12_passes_74 : decode cX12_passes 74 = .ok (.istore_n 2, 1) := by decide +kernel
theorem dX12_passes_75 : decode cX12_passes 75 = .ok (.iload_n 2, 1) := by decide +kernel
theorem dX12_passes_76 : decode cX12_passes 76 = .ok (.aload_n 0, 1) := by decide +kernel
theorem dX12_passes_77 : decode cX12_passes 77 = .ok (.getfield 39, 3) := by decide +kernel
theorem dX12_passes_80 : decode cX12_passes 80 = .ok (.iconst 2, 1) := by decide +kernel
theorem dX12_passes_81 : decode cX12_passes 81 = .ok (.iaload, 1) := by decide +kernel
theorem dX12_passes_82 : decode cX12_passes 82 = .ok (.if_icmp .ge 49, 3) := by decide +kernel
theorem dX12_passes_85 : decode cX12_passes 85 = .ok (.aload_n 0, 1) := by decide +kernel
theorem dX12_passes_86 : decode cX12_passes 86 = .ok (.iload_n 2, 1) := by decide +kernel
theorem dX12_passes_87 : decode cX12_passes 87 = .ok (.invokevirtual 332, 3) := by decide +kernel
theorem dX12_passes_90 : decode cX12_passes 90 = .ok (.istore_n 3, 1) := by decide +kernel
theorem dX12_passes_91 : decode cX12_passes 91 = .ok (.aload_n 0, 1) := by decide +kernel
theorem dX12_passes_92 : decode cX12_passes 92 = .ok (.getfield 39, 3) := by decide +kernel
theorem dX12_passes_95 : decode cX12_passes 95 = .ok (.bipush 10, 2) := by decide +kernel
theorem dX12_passes_97 : decode cX12_passes 97 = .ok (.iload_n 2, 1) := by decide +kernel
theorem dX12_passes_98 : decode cX12_passes 98 = .ok (.iadd, 1) := by decide +kernel
theorem dX12_passes_99 : decode cX12_passes 99 = .ok (.aload_n 0, 1) := by decide +kernel
theorem dX12_passes_100 : decode cX12_passes 100 = .ok (.getfield 46, 3) := by decide +kernel
theorem dX12_passes_103 : decode cX12_passes 103 = .ok (.iload_n 2, 1) := by decide +kernel
theorem dX12_passes_104 : decode cX12_passes 104 = .ok (.iaload, 1) := by decide +kernel
theorem dX12_passes_105 : decode cX12_passes 105 = .ok (.iastore, 1) := by decide +kernel
theorem dX12_passes_106 : decode cX12_passes 106 = .ok (.iload_n 1, 1) := by decide +kernel
theorem dX12_passes_107 : decode cX12_passes 107 = .ok (.aload_n 0, 1) := by decide +kernel
theorem dX12_passes_108 : decode cX12_passes 108 = .ok (.iload_n 2, 1) := by decide +kernel
theorem dX12_passes_109 : decode cX12_passes 109 = .ok (.invokevirtual 332, 3) := by decide +kernel
theorem dX12_passes_112 : decode cX12_passes 112 = .ok (.iload_n 3, 1) := by decide +kernel
theorem dX12_passes_113 : decode cX12_passes 113 = .ok (.if_icmp .eq 9, 3) := by decide +kernel
theorem dX12_passes_122 : decode cX12_passes 122 = .ok (.iconst 0, 1) := by decide +kernel
theorem dX12_passes_123 : decode cX12_passes 123 = .ok (.ior, 1) := by decide +kernel
theorem dX12_passes_124 : decode cX12_passes 124 = .ok (.istore_n 1, 1) := by decide +kernel
theorem dX12_passes_125 : decode cX12_passes 125 = .ok (.iinc 2 1, 3) := by decide +kernel
theorem dX12_passes_128 : decode cX12_passes 128 = .ok (.goto (-53), 3) := by decide +kernel
theorem dX12_passes_116 : decode cX12_passes 116 = .ok (.iconst 1, 1) := by decide +kernel
theorem dX12_passes_117 : decode cX12_passes 117 = .ok (.iload_n 2, 1) := by decide +kernel
theorem dX12_passes_118 : decode cX12_passes 118 = .ok (.ishl, 1) := by decide +kernel
theorem dX12_passes_119 : decode cX12_passes 119 = .ok (.goto 4, 3) := by decide +kernel
theorem dX12_passes_131 : decode cX12_passes 131 = .ok (.aload_n 0, 1) := by decide +kernel
theorem dX12_passes_132 : decode cX12_passes 132 = .ok (.getfield 39, 3) := by decide +kernel
theorem dX12_passes_135 : decode cX12_passes 135 = .ok (.iconst 4, 1) := by decide +kernel
theorem dX12_passes_136 : decode cX12_passes 136 = .ok (.dup2, 1) := by decide +kernel
theorem dX12_passes_137 : decode cX12_passes 137 = .ok (.iaload, 1) := by decide +kernel
theorem dX12_passes_138 : decode cX12_passes 138 = .ok (.iconst 1, 1) := by decide +kernel
theorem dX12_passes_139 : decode cX12_passes 139 = .ok (.iadd, 1) := by decide +kernel
theorem dX12_passes_140 : decode cX12_passes 140 = .ok (.iastore, 1) := by decide +kernel
theorem dX12_passes_141 : decode cX12_passes 141 = .ok (.iload_n 1, 1) := by decide +kernel
theorem dX12_passes_142 : decode cX12_passes 142 = .ok (.ireturn, 1) := by decide +kernel
theorem mv_X12_words : MV RX12 yX12_words cX12_words 5 none 1 := ⟨mw_7_137, mp_6_11, mw_1_13, mw_7_138, ⟨rfl, by decide, by decide, by decide +kernel⟩⟩
theorem mv_X12_summedBy : MV RX12 yX12_summedBy cX12_summedBy 4 (some .long) 1 := ⟨mw_7_145, mp_6_13, mw_1_13, mw_7_146, ⟨rfl, by decide, by decide, by decide +kernel⟩⟩
set_option maxHeartbeats 4000000 in
set_option maxRecDepth 100000 in
theorem cy_X12_passes (l : Launch) (D : va_G) (cA : Nat → ClassId) (L : List Nat) (T : Nat → Nat) (r : Rg) (hG : GR L T r) (hL : L.Nodup) (σ : Sg) (ρ : Lg) (hW : WT L ry T σ) (sz : Nat) (h0 : Nat) (mh0 : h0 ∈ L) (th0 : T h0 = 12) (bg : Nat) (hbg : r h0 3 = some bg) (mbg : bg ∈ L) (tbg : T bg = 62) (bk : Nat) (hbk : r h0 5 = some bk) (mbk : bk ∈ L) (tbk : T bk = 64) (bc : Nat) (hbc : r h0 6 = some bc) (mbc : bc ∈ L) (tbc : T bc = 65) (w0 : WR (σ bg) (σ bk) (σ bc) (σ h0 2).toInt.toNat) (w1 : (σ h0 21).toInt < (σ h0 2).toInt) : Met l yX12_passes (.code yX12_passes cX12_passes 4 (some .int) :: wsA) ({ frames := 3, cells := 0, slots := 0, locals := 77 }) (PR D cA L T r σ ρ sz [.ref h0]) (QI D cA L T r ry [(12, 18), (70, 1000), (71, 1000)] σ sz (fun x σ1 => True)) 0 0 (dm L sz) := by
  refine Met.ofW (cc := cX12_passes) (maxL := 4) (ret := (some .int)) (by decide) rfl ?_
  intro p e s m args below meth c s₁ B hml hv
  obtain ⟨rfl, hsz, hP, hK, hN⟩ := hv
  have hx := B.exec
  have hb := B.bytes
  have hr := B.returns
  have hts : ∀ w ∈ wsA, w.before _ s = true := fun w h => atoms_spec (ws := .code yX12_passes cX12_passes 4 (some .int) :: wsA) B.pre w (List.mem_cons_of_mem _ h)
  have hown : s.vm.findClass RX12 = some m.cls := findClass_of_methodNamed B.named
  subst hsz
  have hLA : LA (dm L s.heap.size) L := ⟨hL, fun a h => Or.inl h⟩
  have hA : ∀ q : Nat, s.heap.size ≤ q → dm L s.heap.size q := fun q h => Or.inr h
  have hS : va_S (dm L s.heap.size) s.heap s.heap [] := va_S.rf
  have hB : TS D cA L T r ry [(12, 18), (70, 1000), (71, 1000)] σ σ ρ s.heap := ⟨hP, hW, FR.rf⟩
  have hl := lv_entry ([.ref h0]) (n := 4) (Nat.le_of_ble_eq_true rfl)
  rw [lg_entry_eq]
  generalize (lg_sl ([.ref h0]) ++ List.replicate (4 - (lg_sl ([.ref h0])).length) Slot.unset).toArray = ls at hl ⊢
  have hl : lv_has ls 4 [(0, .ref h0)] := hl
  have w_1 : (-1) ≤ (σ h0 21).toInt ∧ (σ h0 21).toInt ≤ 5 := by have z := hB.2.1 h0 mh0 21; rw [th0] at z; exact z
  have w_2 : 0 ≤ (σ h0 2).toInt ∧ (σ h0 2).toInt ≤ 6 := by have z := hB.2.1 h0 mh0 2; rw [th0] at z; exact z
  refine lv_iconst (v := 0) hx hb dX12_passes_0 (by decide) ?_
  refine lv_istore_n (lv' := [(1, .int 0), (0, .ref h0)]) hx hb dX12_passes_1 rfl hl (by decide) rfl (fun ls hl => ?_)
  refine lv_iconst (v := 0) hx hb dX12_passes_2 (by decide) ?_
  refine lv_istore_n (lv' := [(2, .int 0), (1, .int 0), (0, .ref h0)]) hx hb dX12_passes_3 rfl hl (by decide) rfl (fun ls hl => ?_)
  refine w_loop (α := Int32 × Sg × Lg) (fun (i_3, σ_4, ρ_5) H locs ls => 0 ≤ i_3.toInt ∧ i_3.toInt ≤ 8 ∧ σ_4 h0 21 = (σ h0 21) ∧ σ_4 h0 2 = (σ h0 2) ∧ TS D cA L T r ry [(12, 18), (70, 1000), (71, 1000)] σ σ_4 ρ_5 H ∧ va_S (dm L s.heap.size) s.heap H locs ∧ lv_has ls 4 [(2, .int i_3), (1, .int 0), (0, .ref h0)]) (fun (i_3, σ_4, ρ_5) => (8 - i_3.toInt).toNat) ?_ ⟨0, σ, ρ⟩ ⟨(by decide), (by decide), rfl, rfl, hB, hS, lv_sub hl [0, 1, 2] rfl⟩
  rintro ⟨i_3, σ_4, ρ_5⟩ H locs ls ⟨li_3, ui_3, k_7, k_8, hB, hS, hl⟩ ih_6
  refine lv_iload_n hx hb dX12_passes_4 rfl (lv_at hl 0 rfl) ?_
  refine lv_aload_n hx hb dX12_passes_5 rfl (lv_at hl 2 rfl) ?_
  refine t_gr hx hb hts hown hK hG hB mh0 th0 fq_12_20 rfl mw_5_236 dX12_passes_6 (fun b_9 hb_9 mb_9 tb_9 => ?_)
  refine lv_iconst (v := 2) hx hb dX12_passes_9 (by decide) ?_
  refine t_aj hx hb hK hB mb_9 tb_9 ai_70 (i_in (by decide) (by decide)) dX12_passes_10 (fun x_10 ex_10 lx_10 ux_10 => ?_)
  have lx_10 : 0 ≤ x_10.toInt := lx_10
  have ux_10 : x_10.toInt ≤ 8 := ux_10
  have cx_10 := congrArg Int32.toInt ex_10
  refine lv_icmp_ge (tgt := 73) hx hb dX12_passes_11 (by decide) (fun c_11 => ?_) (fun c_11 => ?_)
  · skip
    have uc_11 := j_le c_11
    refine lv_iconst (v := 0) hx hb dX12_passes_73 (by decide) ?_
    refine lv_istore_n (lv' := [(2, .int 0), (1, .int 0), (0, .ref h0)]) hx hb dX12_passes_74 rfl hl (by decide) rfl (fun ls hl => ?_)
    refine w_loop (α := Int32 × Int32 × Sg × Lg) (fun (i_12, i_13, σ_14, ρ_15) H locs ls => 0 ≤ i_13.toInt ∧ i_13.toInt ≤ 8 ∧ σ_14 h0 21 = (σ h0 21) ∧ σ_14 h0 2 = (σ h0 2) ∧ TS D cA L T r ry [(12, 18), (70, 1000), (71, 1000)] σ σ_14 ρ_15 H ∧ va_S (dm L s.heap.size) s.heap H locs ∧ lv_has ls 4 [(2, .int i_13), (1, .int i_12), (0, .ref h0)]) (fun (i_12, i_13, σ_14, ρ_15) => (8 - i_13.toInt).toNat) ?_ ⟨0, 0, σ_4, ρ_5⟩ ⟨(by decide), (by decide), k_7, k_8, hB, hS, lv_sub hl [0, 1, 2] rfl⟩
    rintro ⟨i_12, i_13, σ_14, ρ_15⟩ H locs ls ⟨li_13, ui_13, k_17, k_18, hB, hS, hl⟩ ih_16
    refine lv_iload_n hx hb dX12_passes_75 rfl (lv_at hl 0 rfl) ?_
    refine lv_aload_n hx hb dX12_passes_76 rfl (lv_at hl 2 rfl) ?_
    refine t_gk hx hb hts hown hK hB mh0 th0 fq_12_20 hb_9 mw_5_236 dX12_passes_77 ?_
    refine lv_iconst (v := 2) hx hb dX12_passes_80 (by decide) ?_
    refine t_aj hx hb hK hB mb_9 tb_9 ai_70 (i_in (by decide) (by decide)) dX12_passes_81 (fun x_19 ex_19 lx_19 ux_19 => ?_)
    have lx_19 : 0 ≤ x_19.toInt := lx_19
    have ux_19 : x_19.toInt ≤ 8 := ux_19
    have cx_19 := congrArg Int32.toInt ex_19
    refine lv_icmp_ge (tgt := 131) hx hb dX12_passes_82 (by decide) (fun c_20 => ?_) (fun c_20 => ?_)
    · skip
      have uc_20 := j_le c_20
      refine lv_aload_n hx hb dX12_passes_131 rfl (lv_at hl 2 rfl) ?_
      refine t_gk hx hb hts hown hK hB mh0 th0 fq_12_20 hb_9 mw_5_236 dX12_passes_132 ?_
      refine lv_iconst (v := 4) hx hb dX12_passes_135 (by decide) ?_
      refine lv_dup2_11 hx hb dX12_passes_136 rfl rfl ?_
      refine t_aj hx hb hK hB mb_9 tb_9 ai_70 (i_in (by decide) (by decide)) dX12_passes_137 (fun x_21 ex_21 lx_21 ux_21 => ?_)
      have lx_21 : (-2147483648) ≤ x_21.toInt := lx_21
      have ux_21 : x_21.toInt ≤ 2147483647 := ux_21
      have cx_21 := congrArg Int32.toInt ex_21
      refine lv_iconst (v := 1) hx hb dX12_passes_138 (by decide) ?_
      refine lv_iadd hx hb dX12_passes_139 ?_
      refine lv_topi (fun x_22 ex_22 => ?_)
      try have vx_22 := b_add (rfl : x_21.toInt = _) (by decide : (1 : Int32).toInt = 1) ex_22 (by omega) (by omega)
      refine t_si hx hb hK hLA hB hS mb_9 tb_9 ai_70 (i_in (by decide) (by decide)) (i_lo _) (i_hi _) (Or.inr (by decide)) dX12_passes_140 (fun H locs σ_23 eσ_23 hB hS => ?_)
      have k_24 : σ_23 b_9 4 = x_22 := by rw [eσ_23]; exact up2_same _ _ _ _
      refine lv_iload_n hx hb dX12_passes_141 rfl (lv_at hl 1 rfl) ?_
      exact W.iret (v := i_12) hx hb hr (fun t ht hW => ⟨⟨i_12, (σ_23, ρ_15), rfl, ⟨hB.2.1, hB.2.2, trivial⟩, (show TP D cA L T r σ_23 ρ_15 t.heap from by rw [ht]; exact hB.1)⟩, hS.F ht⟩) hS.2.2 dX12_passes_142
    · skip
      have uc_20 := j_nle c_20
      refine lv_aload_n hx hb dX12_passes_85 rfl (lv_at hl 2 rfl) ?_
      refine lv_iload_n hx hb dX12_passes_86 rfl (lv_at hl 0 rfl) ?_
      refine t_ci (va_runV (As := [.int i_13]) (rest := []) ⟨hx, hb, hml, hown, hts⟩ (cy_X12_asksFor l D cA L T r hG hLA.1 σ_14 ρ_15 hB.2.1 _ h0 mh0 th0 i_13 (by first | omega | decide) (by first | omega | decide)) (cV hts mv_X12_asksFor mw_7_98 rfl rfl ⟨Nat.le_of_ble_eq_true rfl, Nat.le_of_ble_eq_true rfl⟩) (pV hB.1 hK hN mh0 th0 (show shp cA 12 _ _ _ = .inr (12, Fs12 _ _ _) from rfl) rfl) rfl rfl hl.1 rfl (lv_room (Nat.le_of_ble_eq_true rfl)) dX12_passes_87 ⟨Nat.le_of_ble_eq_true rfl, Nat.le_of_ble_eq_true rfl⟩) hLA hA hB hS (by decide) (fun x_27 σ_25 ρ_26 H locs hB fσ_25 pσ_25 hS => ?_)
      have qσ_25 := FR.nil fσ_25
      subst qσ_25
      obtain ⟨lx_27, ux_27⟩ := pσ_25
      refine lv_istore_n (lv' := [(3, .int x_27), (2, .int i_13), (1, .int i_12), (0, .ref h0)]) hx hb dX12_passes_90 rfl hl (by decide) rfl (fun ls hl => ?_)
      refine lv_aload_n hx hb dX12_passes_91 rfl (lv_at hl 3 rfl) ?_
      refine t_gk hx hb hts hown hK hB mh0 th0 fq_12_20 hb_9 mw_5_236 dX12_passes_92 ?_
      refine lv_bipush (v := 10) hx hb dX12_passes_95 (by decide) ?_
      refine lv_iload_n hx hb dX12_passes_97 rfl (lv_at hl 1 rfl) ?_
      refine lv_iadd hx hb dX12_passes_98 ?_
      refine lv_topi (fun x_28 ex_28 => ?_)
      have vx_28 := b_add (by decide : (10 : Int32).toInt = 10) (rfl : i_13.toInt = _) ex_28 (by omega) (by omega)
      refine lv_aload_n hx hb dX12_passes_99 rfl (lv_at hl 3 rfl) ?_
      refine t_gr hx hb hts hown hK hG hB mh0 th0 fq_12_23 rfl mw_5_239 dX12_passes_100 (fun b_29 hb_29 mb_29 tb_29 => ?_)
      refine lv_iload_n hx hb dX12_passes_103 rfl (lv_at hl 1 rfl) ?_
      refine t_ai hx hb hK hB mb_29 tb_29 ai_71 (fun _ => rfl) (i_in (by omega) (by omega)) dX12_passes_104 (fun x_30 ex_30 lx_30 ux_30 => ?_)
      have cx_30 := congrArg Int32.toInt ex_30
      refine t_si hx hb hK hLA hB hS mb_9 tb_9 ai_70 (i_in (by omega) (by omega)) (by rw [show ry 70 x_28.toNatClampNeg = (0, 1) from sbT (by have hn : x_28.toNatClampNeg = x_28.toInt.toNat := rfl; omega) (by have hn : x_28.toNatClampNeg = x_28.toInt.toNat := rfl; omega)]; show (0 : Int) ≤ _; first | omega | decide) (by rw [show ry 70 x_28.toNatClampNeg = (0, 1) from sbT (by have hn : x_28.toNatClampNeg = x_28.toInt.toNat := rfl; omega) (by have hn : x_28.toNatClampNeg = x_28.toInt.toNat := rfl; omega)]; show _ ≤ (1 : Int); first | omega | decide) (Or.inr (by decide)) dX12_passes_105 (fun H locs σ_31 eσ_31 hB hS => ?_)
      have k_32 : σ_31 b_9 x_28.toNatClampNeg = x_30 := by rw [eσ_31]; exact up2_same _ _ _ _
      refine lv_iload_n hx hb dX12_passes_106 rfl (lv_at hl 2 rfl) ?_
      refine lv_aload_n hx hb dX12_passes_107 rfl (lv_at hl 3 rfl) ?_
      refine lv_iload_n hx hb dX12_passes_108 rfl (lv_at hl 1 rfl) ?_
      refine t_ci (va_runV (As := [.int i_13]) (rest := [.int i_12]) ⟨hx, hb, hml, hown, hts⟩ (cy_X12_asksFor l D cA L T r hG hLA.1 σ_31 ρ_26 hB.2.1 _ h0 mh0 th0 i_13 (by first | omega | decide) (by first | omega | decide)) (cV hts mv_X12_asksFor mw_7_98 rfl rfl ⟨Nat.le_of_ble_eq_true rfl, Nat.le_of_ble_eq_true rfl⟩) (pV hB.1 hK hN mh0 th0 (show shp cA 12 _ _ _ = .inr (12, Fs12 _ _ _) from rfl) rfl) rfl rfl hl.1 rfl (lv_room (Nat.le_of_ble_eq_true rfl)) dX12_passes_109 ⟨Nat.le_of_ble_eq_true rfl, Nat.le_of_ble_eq_true rfl⟩) hLA hA hB hS (by decide) (fun x_35 σ_33 ρ_34 H locs hB fσ_33 pσ_33 hS => ?_)
      have qσ_33 := FR.nil fσ_33
      subst qσ_33
      obtain ⟨lx_35, ux_35⟩ := pσ_33
      refine lv_iload_n hx hb dX12_passes_112 rfl (lv_at hl 0 rfl) ?_
      refine lv_icmp_eq (tgt := 122) hx hb dX12_passes_113 (by decide) (fun c_36 => ?_) (fun c_36 => ?_)
      · skip
        have uc_36 := j_eq c_36
        refine lv_iconst (v := 0) hx hb dX12_passes_122 (by decide) ?_
        refine lv_ior hx hb dX12_passes_123 ?_
        refine lv_topi (fun x_37 ex_37 => ?_)
        refine lv_istore_n (lv' := [(1, .int x_37), (3, .int x_27), (2, .int i_13), (0, .ref h0)]) hx hb dX12_passes_124 rfl hl (by decide) rfl (fun ls hl => ?_)
        obtain ⟨x_38, ex_38⟩ : ∃ y : Int32, y = i_13 + 1 := ⟨_, rfl⟩
        have vx_38 := b_add (rfl : i_13.toInt = _) (by decide : (1 : Int32).toInt = 1) ex_38 (by omega) (by omega)
        refine lv_iinc (v := x_38) (lv' := [(2, .int x_38), (1, .int x_37), (3, .int x_27), (0, .ref h0)]) hx hb dX12_passes_125 hl (k := 2) rfl (by rw [ex_38]; rfl) (by decide) rfl (fun ls hl => ?_)
        refine lv_goto (tgt := 75) hx hb dX12_passes_128 (by decide) ?_
        have k_39 : σ_31 h0 21 = (σ h0 21) := by rw [eσ_31, up2_nea _ _ (tg_ne th0 tb_9 (by decide))]; exact k_17
        have k_40 : σ_31 h0 2 = (σ h0 2) := by rw [eσ_31, up2_nea _ _ (tg_ne th0 tb_9 (by decide))]; exact k_18
        exact ih_16 ⟨x_37, x_38, σ_31, ρ_34⟩ _ _ _ ⟨(by omega), (by omega), k_39, k_40, hB, hS, lv_sub hl [0, 1, 3] rfl⟩ (by show (8 - x_38.toInt).toNat < (8 - i_13.toInt).toNat; omega)
      · skip
        have uc_36 := j_ne c_36
        refine lv_iconst (v := 1) hx hb dX12_passes_116 (by decide) ?_
        refine lv_iload_n hx hb dX12_passes_117 rfl (lv_at hl 1 rfl) ?_
        refine lv_ishl hx hb dX12_passes_118 ?_
        refine lv_topi (fun x_41 ex_41 => ?_)
        have lx_41 := i_lo x_41
        have ux_41 := i_hi x_41
        refine lv_goto (tgt := 123) hx hb dX12_passes_119 (by decide) ?_
        refine lv_ior hx hb dX12_passes_123 ?_
        refine lv_topi (fun x_42 ex_42 => ?_)
        refine lv_istore_n (lv' := [(1, .int x_42), (3, .int x_27), (2, .int i_13), (0, .ref h0)]) hx hb dX12_passes_124 rfl hl (by decide) rfl (fun ls hl => ?_)
        obtain ⟨x_43, ex_43⟩ : ∃ y : Int32, y = i_13 + 1 := ⟨_, rfl⟩
        have vx_43 := b_add (rfl : i_13.toInt = _) (by decide : (1 : Int32).toInt = 1) ex_43 (by omega) (by omega)
        refine lv_iinc (v := x_43) (lv' := [(2, .int x_43), (1, .int x_42), (3, .int x_27), (0, .ref h0)]) hx hb dX12_passes_125 hl (k := 2) rfl (by rw [ex_43]; rfl) (by decide) rfl (fun ls hl => ?_)
        refine lv_goto (tgt := 75) hx hb dX12_passes_128 (by decide) ?_
        have k_44 : σ_31 h0 21 = (σ h0 21) := by rw [eσ_31, up2_nea _ _ (tg_ne th0 tb_9 (by decide))]; exact k_17
        have k_45 : σ_31 h0 2 = (σ h0 2) := by rw [eσ_31, up2_nea _ _ (tg_ne th0 tb_9 (by decide))]; exact k_18
        exact ih_16 ⟨x_42, x_43, σ_31, ρ_34⟩ _ _ _ ⟨(by omega), (by omega), k_44, k_45, hB, hS, lv_sub hl [0, 1, 3] rfl⟩ (by show (8 - x_43.toInt).toNat < (8 - i_13.toInt).toNat; omega)
  · skip
    have uc_11 := j_nle c_11
    refine lv_aload_n hx hb dX12_passes_14 rfl (lv_at hl 2 rfl) ?_
    refine t_gr hx hb hts hown hK hG hB mh0 th0 fq_12_23 rfl mw_5_239 dX12_passes_15 (fun b_46 hb_46 mb_46 tb_46 => ?_)
    refine lv_iload_n hx hb dX12_passes_18 rfl (lv_at hl 0 rfl) ?_
    refine lv_iconst (v := 1) hx hb dX12_passes_19 (by decide) ?_
    refine lv_aload_n hx hb dX12_passes_20 rfl (lv_at hl 2 rfl) ?_
    refine t_gk hx hb hts hown hK hB mh0 th0 fq_12_20 hb_9 mw_5_236 dX12_passes_21 ?_
    refine lv_bipush (v := 10) hx hb dX12_passes_24 (by decide) ?_
    refine lv_iload_n hx hb dX12_passes_26 rfl (lv_at hl 0 rfl) ?_
    refine lv_iadd hx hb dX12_passes_27 ?_
    refine lv_topi (fun x_47 ex_47 => ?_)
    have vx_47 := b_add (by decide : (10 : Int32).toInt = 10) (rfl : i_3.toInt = _) ex_47 (by omega) (by omega)
    refine t_aj hx hb hK hB mb_9 tb_9 ai_70 (i_in (by omega) (by omega)) dX12_passes_28 (fun x_48 ex_48 lx_48 ux_48 => ?_)
    rw [show ry 70 x_47.toNatClampNeg = (0, 1) from sbT (by have hn : x_47.toNatClampNeg = x_47.toInt.toNat := rfl; omega) (by have hn : x_47.toNatClampNeg = x_47.toInt.toNat := rfl; omega)] at lx_48 ux_48
    have cx_48 := congrArg Int32.toInt ex_48
    refine lv_isub hx hb dX12_passes_29 ?_
    refine lv_topi (fun x_49 ex_49 => ?_)
    have vx_49 := b_sub (by decide : (1 : Int32).toInt = 1) (rfl : x_48.toInt = _) ex_49 (by omega) (by omega)
    refine t_si hx hb hK hLA hB hS mb_46 tb_46 ai_71 (i_in (by omega) (by omega)) (by show 0 ≤ _; (first | omega | (subst_vars; omega))) (by show _ ≤ 1; (first | omega | (subst_vars; omega))) (Or.inr (by decide)) dX12_passes_30 (fun H locs σ_50 eσ_50 hB hS => ?_)
    have k_51 : σ_50 b_46 i_3.toNatClampNeg = x_49 := by rw [eσ_50]; exact up2_same _ _ _ _
    refine lv_aload_n hx hb dX12_passes_31 rfl (lv_at hl 2 rfl) ?_
    have k_52 : σ_50 h0 21 = (σ h0 21) := by rw [eσ_50, up2_nea _ _ (tg_ne th0 tb_46 (by decide))]; exact k_7
    refine t_gv hx hb hts hown hK hB mh0 th0 fi_12_21 k_52 mw_5_237 dX12_passes_32 ?_
    refine lv_if_lt (tgt := 67) hx hb dX12_passes_35 (by decide) (fun c_53 => ?_) (fun c_53 => ?_)
    · skip
      have uc_53 := i_lt (n := 0) (by decide) c_53
      obtain ⟨x_54, ex_54⟩ : ∃ y : Int32, y = i_3 + 1 := ⟨_, rfl⟩
      have vx_54 := b_add (rfl : i_3.toInt = _) (by decide : (1 : Int32).toInt = 1) ex_54 (by omega) (by omega)
      refine lv_iinc (v := x_54) (lv' := [(2, .int x_54), (1, .int 0), (0, .ref h0)]) hx hb dX12_passes_67 hl (k := 0) rfl (by rw [ex_54]; rfl) (by decide) rfl (fun ls hl => ?_)
      refine lv_goto (tgt := 4) hx hb dX12_passes_70 (by decide) ?_
      have k_55 : σ_50 h0 2 = (σ h0 2) := by rw [eσ_50, up2_nea _ _ (tg_ne th0 tb_46 (by decide))]; exact k_8
      exact ih_6 ⟨x_54, σ_50, ρ_5⟩ _ _ _ ⟨(by omega), (by omega), k_52, k_55, hB, hS, lv_sub hl [0, 1, 2] rfl⟩ (by show (8 - x_54.toInt).toNat < (8 - i_3.toInt).toNat; omega)
    · skip
      have uc_53 := i_nlt (n := 0) (by decide) c_53
      refine lv_aload_n hx hb dX12_passes_38 rfl (lv_at hl 2 rfl) ?_
      refine lv_iload_n hx hb dX12_passes_39 rfl (lv_at hl 0 rfl) ?_
      refine t_cv (va_runV (As := [.int i_3]) (rest := []) ⟨hx, hb, hml, hown, hts⟩ (cy_X12_words l D cA L T r hG hLA.1 σ_50 ρ_5 hB.2.1 _ h0 mh0 th0 i_3 (by first | omega | decide) (by first | omega | decide)) (cV hts mv_X12_words mw_7_135 rfl rfl ⟨Nat.le_of_ble_eq_true rfl, Nat.le_of_ble_eq_true rfl⟩) (pV hB.1 hK hN mh0 th0 (show shp cA 12 _ _ _ = .inr (12, Fs12 _ _ _) from rfl) rfl) rfl rfl hl.1 rfl (lv_room (Nat.le_of_ble_eq_true rfl)) dX12_passes_40 ⟨Nat.le_of_ble_eq_true rfl, Nat.le_of_ble_eq_true rfl⟩) hLA hA hB hS (by decide) (fun σ_56 ρ_57 H locs hB fσ_56 pσ_56 hS => ?_)
      have qσ_56 := FR.nil fσ_56
      subst qσ_56
      refine lv_aload_n hx hb dX12_passes_43 rfl (lv_at hl 2 rfl) ?_
      refine t_gk hx hb hts hown hK hB mh0 th0 fq_12_23 hb_46 mw_5_239 dX12_passes_44 ?_
      refine lv_iload_n hx hb dX12_passes_47 rfl (lv_at hl 0 rfl) ?_
      refine lv_aload_n hx hb dX12_passes_48 rfl (lv_at hl 2 rfl) ?_
      refine lv_aload_n hx hb dX12_passes_49 rfl (lv_at hl 2 rfl) ?_
      refine t_gv hx hb hts hown hK hB mh0 th0 fi_12_21 k_52 mw_5_237 dX12_passes_50 ?_
      refine t_cl (va_runV (As := [.int (σ h0 21)]) (rest := [.int i_3, .ref b_46]) ⟨hx, hb, hml, hown, hts⟩ (cz_X12_summedBy l D cA L T r hG hLA.1 σ_50 ρ_57 hB.2.1 _ h0 mh0 th0 ((σ h0 21)) bg hbg mbg tbg bk hbk mbk tbk bc hbc mbc tbc (by first | omega | decide) (by first | omega | decide) (fun i hi => by rw [FR.row hB.2.2 tbc (fun j => by simp)] at hi; rw [FR.row hB.2.2 tbg (fun j => by simp), FR.row hB.2.2 tbk (fun j => by simp)]; exact w0 _ i (by have z := congrArg Int32.toInt (k_52); omega) hi)) (cV hts mv_X12_summedBy mw_7_143 rfl rfl ⟨Nat.le_of_ble_eq_true rfl, Nat.le_of_ble_eq_true rfl⟩) (pV hB.1 hK hN mh0 th0 (show shp cA 12 _ _ _ = .inr (12, Fs12 _ _ _) from rfl) rfl) rfl rfl hl.1 rfl (lv_room (Nat.le_of_ble_eq_true rfl)) dX12_passes_53 ⟨Nat.le_of_ble_eq_true rfl, Nat.le_of_ble_eq_true rfl⟩) hLA hA hB hS (by decide) (fun y_61 σ_59 ρ_60 H locs hB fσ_59 pσ_59 hS => ?_)
      refine lv_lconst (v := 0) hx hb dX12_passes_56 (by decide) ?_
      refine W.lcmp hx hb dX12_passes_57 ?_
      refine lv_if_le (tgt := 65) hx hb dX12_passes_58 (by decide) (fun c_62 => ?_) (fun c_62 => ?_)
      · skip
        have uc_62 := l_le (rfl : y_61.toInt = _) (by decide : (0 : Int64).toInt = 0) ((lg_cmp_le _ _).mp c_62)
        refine lv_iconst (v := 1) hx hb dX12_passes_65 (by decide) ?_
        refine t_si hx hb hK hLA hB hS mb_46 tb_46 ai_71 (i_in (by omega) (by omega)) (show 0 ≤ (1 : Int32).toInt by decide) (show (1 : Int32).toInt ≤ 1 by decide) (Or.inr (by decide)) dX12_passes_66 (fun H locs σ_63 eσ_63 hB hS => ?_)
        have k_64 : σ_63 b_46 i_3.toNatClampNeg = 1 := by rw [eσ_63]; exact up2_same _ _ _ _
        obtain ⟨x_65, ex_65⟩ : ∃ y : Int32, y = i_3 + 1 := ⟨_, rfl⟩
        have vx_65 := b_add (rfl : i_3.toInt = _) (by decide : (1 : Int32).toInt = 1) ex_65 (by omega) (by omega)
        refine lv_iinc (v := x_65) (lv' := [(2, .int x_65), (1, .int 0), (0, .ref h0)]) hx hb dX12_passes_67 hl (k := 0) rfl (by rw [ex_65]; rfl) (by decide) rfl (fun ls hl => ?_)
        refine lv_goto (tgt := 4) hx hb dX12_passes_70 (by decide) ?_
        have k_66 : σ_59 h0 21 = (σ h0 21) := (FR.at fσ_59 th0 (by decide)).trans k_52
        have k_67 : σ_63 h0 21 = (σ h0 21) := by rw [eσ_63, up2_nea _ _ (tg_ne th0 tb_46 (by decide))]; exact k_66
        have k_68 : σ_50 h0 2 = (σ h0 2) := by rw [eσ_50, up2_nea _ _ (tg_ne th0 tb_46 (by decide))]; exact k_8
        have k_69 : σ_59 h0 2 = (σ h0 2) := (FR.at fσ_59 th0 (by decide)).trans k_68
        have k_70 : σ_63 h0 2 = (σ h0 2) := by rw [eσ_63, up2_nea _ _ (tg_ne th0 tb_46 (by decide))]; exact k_69
        exact ih_6 ⟨x_65, σ_63, ρ_60⟩ _ _ _ ⟨(by omega), (by omega), k_67, k_70, hB, hS, lv_sub hl [0, 1, 2] rfl⟩ (by show (8 - x_65.toInt).toNat < (8 - i_3.toInt).toNat; omega)
      · skip
        have uc_62 := l_nle (rfl : y_61.toInt = _) (by decide : (0 : Int64).toInt = 0) (mt (lg_cmp_le _ _).mpr c_62)
        refine lv_iconst (v := 0) hx hb dX12_passes_61 (by decide) ?_
        refine lv_goto (tgt := 66) hx hb dX12_passes_62 (by decide) ?_
        refine t_si hx hb hK hLA hB hS mb_46 tb_46 ai_71 (i_in (by omega) (by omega)) (show 0 ≤ (0 : Int32).toInt by decide) (show (0 : Int32).toInt ≤ 1 by decide) (Or.inr (by decide)) dX12_passes_66 (fun H locs σ_71 eσ_71 hB hS => ?_)
        have k_72 : σ_71 b_46 i_3.toNatClampNeg = 0 := by rw [eσ_71]; exact up2_same _ _ _ _
        obtain ⟨x_73, ex_73⟩ : ∃ y : Int32, y = i_3 + 1 := ⟨_, rfl⟩
        have vx_73 := b_add (rfl : i_3.toInt = _) (by decide : (1 : Int32).toInt = 1) ex_73 (by omega) (by omega)
        refine lv_iinc (v := x_73) (lv' := [(2, .int x_73), (1, .int 0), (0, .ref h0)]) hx hb dX12_passes_67 hl (k := 0) rfl (by rw [ex_73]; rfl) (by decide) rfl (fun ls hl => ?_)
        refine lv_goto (tgt := 4) hx hb dX12_passes_70 (by decide) ?_
        have k_74 : σ_59 h0 21 = (σ h0 21) := (FR.at fσ_59 th0 (by decide)).trans k_52
        have k_75 : σ_71 h0 21 = (σ h0 21) := by rw [eσ_71, up2_nea _ _ (tg_ne th0 tb_46 (by decide))]; exact k_74
        have k_76 : σ_50 h0 2 = (σ h0 2) := by rw [eσ_50, up2_nea _ _ (tg_ne th0 tb_46 (by decide))]; exact k_8
        have k_77 : σ_59 h0 2 = (σ h0 2) := (FR.at fσ_59 th0 (by decide)).trans k_76
        have k_78 : σ_71 h0 2 = (σ h0 2) := by rw [eσ_71, up2_nea _ _ (tg_ne th0 tb_46 (by decide))]; exact k_77
        exact ih_6 ⟨x_73, σ_71, ρ_60⟩ _ _ _ ⟨(by omega), (by omega), k_75, k_78, hB, hS, lv_sub hl [0, 1, 2] rfl⟩ (by show (8 - x_73.toInt).toNat < (8 - i_3.toInt).toNat; omega)
