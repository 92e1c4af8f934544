theorem mw_2_67 : (.fieldLink RX6 11 "HillBends$Nights" "words" "[J" : Cond) ∈ wsA := wsA_t (List.mem_append_right _ (List.mem_append_left _ (List.mem_of_getElem? (l := tables_1_2) (i := 67) rfl))) rfl
theorem mw_1_147 : (.fieldLink RX6 53 "HillBends$Hill" "first" "[I" : Cond) ∈ wsA := wsA_t (List.mem_append_left _ (List.mem_of_getElem? (l := tables_1_1) (i := 147) rfl)) rfl
theorem mw_1_153 : (.fieldLink RX6 57 "HillBends$Hill" "second" "[I" : Cond) ∈ wsA := wsA_t (List.mem_append_left _ (List.mem_of_getElem? (l := tables_1_1) (i := 153) rfl)) rfl
theorem mw_1_105 : (.fieldLink RX6 33 "HillBends$Scene" "seconds" "I" : Cond) ∈ wsA := wsA_t (List.mem_append_left _ (List.mem_of_getElem? (l := tables_1_1) (i := 105) rfl)) rfl
theorem mw_4_122 : (.methodLink RX6 60 yX3_askedAt : Cond) ∈ wsA := wsA_t (List.mem_append_right _ (List.mem_append_right _ (List.mem_append_right _ (List.mem_append_left _ (List.mem_of_getElem? (l := tables_1_4) (i := 122) rfl))))) rfl
theorem mw_1_111 : (.fieldLink RX6 44 "HillBends$Scene" "night" "I" : Cond) ∈ wsA := wsA_t (List.mem_append_left _ (List.mem_of_getElem? (l := tables_1_1) (i := 111) rfl)) rfl
theorem mw_1_102 : (.fieldLink RX6 63 "HillBends$Scene" "heap" "[I" : Cond) ∈ wsA := wsA_t (List.mem_append_left _ (List.mem_of_getElem? (l := tables_1_1) (i := 102) rfl)) rfl
theorem mw_1_173 : (.fieldLink RX6 66 "HillBends$Hill" "sorts" "I" : Cond) ∈ wsA := wsA_t (List.mem_append_left _ (List.mem_of_getElem? (l := tables_1_1) (i := 173) rfl)) rfl
theorem mw_1_186 : (.fieldLink RX6 69 "HillBends$Hill" "pilgrims" "I" : Cond) ∈ wsA := wsA_t (List.mem_append_left _ (List.mem_of_getElem? (l := tables_1_1) (i := 186) rfl)) rfl
theorem mw_1_83 : (.fieldLink RX6 72 "HillBends$Scene" "height" "[I" : Cond) ∈ wsA := wsA_t (List.mem_append_left _ (List.mem_of_getElem? (l := tables_1_1) (i := 83) rfl)) rfl
theorem dX6_fillWords_0 : decode cX6_fillWords 0 = .ok (.iload_n 3, 1) := by decide +kernel
theorem dX6_fillWords_1 : decode cX6_fillWords 1 = .ok (.iconst 5, 1) := by decide +kernel
theorem dX6_fillWords_2 : decode cX6_fillWords 2 = .ok (.imul, 1) := by decide +kernel
theorem dX6_fillWords_3 : decode cX6_fillWords 3 = .ok (.istore 4, 2) := by decide +kernel
theorem dX6_fillWords_5 : decode cX6_fillWords 5 = .ok (.aload_n 0, 1) := by decide +kernel
theorem dX6_fillWords_6 : decode cX6_fillWords 6 = .ok (.getfield 11, 3) := by decide +kernel
theorem dX6_fillWords_9 : decode cX6_fillWords 9 = .ok (.iconst 0, 1) := by decide +kernel
theorem dX6_fillWords_10 : decode cX6_fillWords 10 = .ok (.iload_n 3, 1) := by decide +kernel
theorem dX6_fillWords_11 : decode cX6_fillWords 11 = .ok (.i2l, 1) := by decide +kernel
theorem dX6_fillWords_12 : decode cX6_fillWords 12 = .ok (.lastore, 1) := by decide +kernel
theorem dX6_fillWords_13 : decode cX6_fillWords 13 = .ok (.aload_n 0, 1) := by decide +kernel
theorem dX6_fillWords_14 : decode cX6_fillWords 14 = .ok (.getfield 11, 3) := by decide +kernel
theorem dX6_fillWords_17 : decode cX6_fillWords 17 = .ok (.iconst 1, 1) := by decide +kernel
theorem dX6_fillWords_18 : decode cX6_fillWords 18 = .ok (.aload_n 1, 1) := by decide +kernel
theorem dX6_fillWords_19 : decode cX6_fillWords 19 = .ok (.getfield 53, 3) := by decide +kernel
theorem dX6_fillWords_22 : decode cX6_fillWords 22 = .ok (.iload_n 3, 1) := by decide +kernel
theorem dX6_fillWords_23 : decode cX6_fillWords 23 = .ok (.iaload, 1) := by decide +kernel
theorem dX6_fillWords_24 : decode cX6_fillWords 24 = .ok (.i2l, 1) := by decide +kernel
theorem dX6_fillWords_25 : decode cX6_fillWords 25 = .ok (.lastore, 1) := by decide +kernel
theorem dX6_fillWords_26 : decode cX6_fillWords 26 = .ok (.aload_n 0, 1) := by decide +kernel
theorem dX6_fillWords_27 : decode cX6_fillWords 27 = .ok (.getfield 11, 3) := by decide +kernel
theorem dX6_fillWords_30 : decode cX6_fillWords 30 = .ok (.iconst 2, 1) := by decide +kernel
theorem dX6_fillWords_31 : decode cX6_fillWords 31 = .ok (.aload_n 1, 1) := by decide +kernel
theorem dX6_fillWords_32 : decode cX6_fillWords 32 = .ok (.getfield 57, 3) := by decide +kernel
theorem dX6_fillWords_35 : decode cX6_fillWords 35 = .ok (.iload_n 3, 1) := by decide +kernel
theorem dX6_fillWords_36 : decode cX6_fillWords 36 = .ok (.iaload, 1) := by decide +kernel
theorem dX6_fillWords_37 : decode cX6_fillWords 37 = .ok (.i2l, 1) := by decide +kernel
theorem dX6_fillWords_38 : decode cX6_fillWords 38 = .ok (.lastore, 1) := by decide +kernel
theorem dX6_fillWords_39 : decode cX6_fillWords 39 = .ok (.aload_n 0, 1) := by decide +kernel
theorem dX6_fillWords_40 : decode cX6_fillWords 40 = .ok (.getfield 11, 3) := by decide +kernel
theorem dX6_fillWords_43 : decode cX6_fillWords 43 = .ok (.iconst 3, 1) := by decide +kernel
theorem dX6_fillWords_44 : decode cX6_fillWords 44 = .ok (.aload_n 1, 1) := by decide +kernel
theorem dX6_fillWords_45 : decode cX6_fillWords 45 = .ok (.iload_n 3, 1) := by decide +kernel
theorem dX6_fillWords_46 : decode cX6_fillWords 46 = .ok (.aload_n 2, 1) := by decide +kernel
theorem dX6_fillWords_47 : decode cX6_fillWords 47 = .ok (.getfield 33, 3) := by decide +kernel
theorem dX6_fillWords_50 : decode cX6_fillWords 50 = .ok (.invokevirtual 60, 3) := by decide +kernel
theorem dX6_fillWords_53 : decode cX6_fillWords 53 = .ok (.i2l, 1) := by decide +kernel
theorem dX6_fillWords_54 : decode cX6_fillWords 54 = .ok (.lastore, 1) := by decide +kernel
theorem dX6_fillWords_55 : decode cX6_fillWords 55 = .ok (.aload_n 0, 1) := by decide +kernel
theorem dX6_fillWords_56 : decode cX6_fillWords 56 = .ok (.getfield 11, 3) := by decide +kernel
theorem dX6_fillWords_59 : decode cX6_fillWords 59 = .ok (.iconst 4, 1) := by decide +kernel
theorem dX6_fillWords_60 : decode cX6_fillWords 60 = .ok (.aload_n 2, 1) := by decide +kernel
theorem dX6_fillWords_61 : decode cX6_fillWords 61 = .ok (.getfield 44, 3) := by decide +kernel
theorem dX6_fillWords_64 : decode cX6_fillWords 64 = .ok (.i2l, 1) := by decide +kernel
theorem dX6_fillWords_65 : decode cX6_fillWords 65 = .ok (.lastore, 1) := by decide +kernel
theorem dX6_fillWords_66 : decode cX6_fillWords 66 = .ok (.aload_n 0, 1) := by decide +kernel
theorem dX6_fillWords_67 : decode cX6_fillWords 67 = .ok (.getfield 11, 3) := by decide +kernel
theorem dX6_fillWords_70 : decode cX6_fillWords 70 = .ok (.iconst 5, 1) := by decide +kernel
theorem dX6_fillWords_71 : decode cX6_fillWords 71 = .ok (.aload_n 2, 1) := by decide +kernel
theorem dX6_fillWords_72 : decode cX6_fillWords 72 = .ok (.getfield 63, 3) := by decide +kernel
theorem dX6_fillWords_75 : decode cX6_fillWords 75 = .ok (.iload 4, 2) := by decide +kernel
theorem dX6_fillWords_77 : decode cX6_fillWords 77 = .ok (.aload_n 1, 1) := by decide +kernel
theorem dX6_fillWords_78 : decode cX6_fillWords 78 = .ok (.getfield 53, 3) := by decide +kernel
theorem dX6_fillWords_81 : decode cX6_fillWords 81 = .ok (.iload_n 3, 1) := by decide +kernel
theorem dX6_fillWords_82 : decode cX6_fillWords 82 = .ok (.iaload, 1) := by decide +kernel
theorem dX6_fillWords_83 : decode cX6_fillWords 83 = .ok (.iadd, 1) := by decide +kernel
theorem dX6_fillWords_84 : decode cX6_fillWords 84 = .ok (.iaload, 1) := by decide +kernel
theorem dX6_fillWords_85 : decode cX6_fillWords 85 = .ok (.i2l, 1) := by decide +kernel
theorem dX6_fillWords_86 : decode cX6_fillWords 86 = .ok (.lastore, 1) := by decide +kernel
theorem dX6_fillWords_87 : decode cX6_fillWords 87 = .ok (.aload_n 0, 1) := by decide +kernel
theorem dX6_fillWords_88 : decode cX6_fillWords 88 = .ok (.getfield 11, 3) := by decide +kernel
theorem dX6_fillWords_91 : decode cX6_fillWords 91 = .ok (.bipush 6, 2) := by decide +kernel
theorem dX6_fillWords_93 : decode cX6_fillWords 93 = .ok (.aload_n 2, 1) := by decide +kernel
theorem dX6_fillWords_94 : decode cX6_fillWords 94 = .ok (.getfield 63, 3) := by decide +kernel
theorem dX6_fillWords_97 : decode cX6_fillWords 97 = .ok (.iload 4, 2) := by decide +kernel
theorem dX6_fillWords_99 : decode cX6_fillWords 99 = .ok (.aload_n 1, 1) := by decide +kernel
theorem dX6_fillWords_100 : decode cX6_fillWords 100 = .ok (.getfield 57, 3) := by decide +kernel
theorem dX6_fillWords_103 : decode cX6_fillWords 103 = .ok (.iload_n 3, 1) := by decide +kernel
theorem dX6_fillWords_104 : decode cX6_fillWords 104 = .ok (.iaload, 1) := by decide +kernel
theorem dX6_fillWords_105 : decode cX6_fillWords 105 = .ok (.iadd, 1) := by decide +kernel
theorem dX6_fillWords_106 : decode cX6_fillWords 106 = .ok (.iaload, 1) := by decide +kernel
theorem dX6_fillWords_107 : decode cX6_fillWords 107 = .ok (.i2l, 1) := by decide +kernel
theorem dX6_fillWords_108 : decode cX6_fillWords 108 = .ok (.lastore, 1) := by decide +kernel
theorem dX6_fillWords_109 : decode cX6_fillWords 109 = .ok (.iconst 0, 1) := by decide +kernel
theorem dX6_fillWords_110 : decode cX6_fillWords 110 = .ok (.istore 5, 2) := by decide +kernel
theorem dX6_fillWords_112 : decode cX6_fillWords 112 = .ok (.iconst 0, 1) := by decide +kernel
theorem dX6_fillWords_113 : decode cX6_fillWords 113 = .ok (.istore 6, 2) := by decide +kernel
theorem dX6_fillWords_115 : decode cX6_fillWords 115 = .ok (.iload 6, 2) := by decide +kernel
theorem dX6_fillWords_117 : decode cX6_fillWords 117 = .ok (.aload_n 1, 1) := by decide +kernel
theorem dX6_fillWords_118 : decode cX6_fillWords 118 = .ok (.getfield 66, 3) := by decide +kernel
theorem dX6_fillWords_121 : decode cX6_fillWords 121 = .ok (.if_icmp .ge 24, 3) := by decide +kernel
theorem dX6_fillWords_145 : decode cX6_fillWords 145 = .ok (.aload_n 0, 1) := by decide +kernel
theorem dX6_fillWords_146 : decode cX6_fillWords 146 = .ok (.getfield 11, 3) := by decide +kernel
theorem dX6_fillWords_149 : decode cX6_fillWords 149 = .ok (.bipush 9, 2) := by decide +kernel
theorem dX6_fillWords_151 : decode cX6_fillWords 151 = .ok (.iload 5, 2) := by decide +kernel
theorem dX6_fillWords_153 : decode cX6_fillWords 153 = .ok (.i2l, 1) := by decide +kernel
theorem dX6_fillWords_154 : decode cX6_fillWords 154 = .ok (.lastore, 1) := by decide +kernel
theorem dX6_fillWords_155 : decode cX6_fillWords 155 = .ok (.iconst 0, 1) := by decide +kernel
theorem dX6_fillWords_156 : decode cX6_fillWords 156 = .ok (.istore 6, 2) := by decide +kernel
theorem dX6_fillWords_158 : decode cX6_fillWords 158 = .ok (.iconst 0, 1) := by decide +kernel
theorem dX6_fillWords_159 : decode cX6_fillWords 159 = .ok (.istore 7, 2) := by decide +kernel
theorem dX6_fillWords_161 : decode cX6_fillWords 161 = .ok (.iconst 0, 1) := by decide +kernel
theorem dX6_fillWords_162 : decode cX6_fillWords 162 = .ok (.istore 8, 2) := by decide +kernel
theorem dX6_fillWords_164 : decode cX6_fillWords 164 = .ok (.iload 8, 2) := by decide +kernel
theorem dX6_fillWords_166 : decode cX6_fillWords 166 = .ok (.aload_n 1, 1) := by decide +kernel
theorem dX6_fillWords_167 : decode cX6_fillWords 167 = .ok (.getfield 69, 3) := by decide +kernel
theorem dX6_fillWords_170 : decode cX6_fillWords 170 = .ok (.if_icmp .ge 40, 3) := by decide +kernel
theorem dX6_fillWords_210 : decode cX6_fillWords 210 = .ok (.aload_n 0, 1) := by decide +kernel
theorem dX6_fillWords_211 : decode cX6_fillWords 211 = .ok (.getfield 11, 3) := by decide +kernel
theorem dX6_fillWords_214 : decode cX6_fillWords 214 = .ok (.bipush 7, 2) := by decide +kernel
theorem dX6_fillWords_216 : decode cX6_fillWords 216 = .ok (.iload 6, 2) := by decide +kernel
theorem dX6_fillWords_218 : decode cX6_fillWords 218 = .ok (.i2l, 1) := by decide +kernel
theorem dX6_fillWords_219 : decode cX6_fillWords 219 = .ok (.lastore, 1) := by decide +kernel
theorem dX6_fillWords_220 : decode cX6_fillWords 220 = .ok (.aload_n 0, 1) := by decide +kernel
theorem dX6_fillWords_221 : decode cX6_fillWords 221 = .ok (.getfield 11, 3) := by decide +kernel
theorem dX6_fillWords_224 : decode cX6_fillWords 224 = .ok (.bipush 8, 2) := by decide +kernel
theorem dX6_fillWords_226 : decode cX6_fillWords 226 = .ok (.iload 7, 2) := by decide +kernel
theorem dX6_fillWords_228 : decode cX6_fillWords 228 = .ok (.i2l, 1) := by decide +kernel
theorem dX6_fillWords_229 : decode cX6_fillWords 229 = .ok (.lastore, 1) := by decide +kernel
theorem dX6_fillWords_230 : decode cX6_fillWords 230 = .ok (.return_, 1) := by decide +kernel
theorem dX6_fillWords_173 : decode cX6_fillWords 173 = .ok (.aload_n 2, 1) := by decide +kernel
theorem dX6_fillWords_174 : decode cX6_fillWords 174 = .ok (.getfield 72, 3) := by decide +kernel
theorem dX6_fillWords_177 : decode cX6_fillWords 177 = .ok (.iload 8, 2) := by decide +kernel
theorem dX6_fillWords_179 : decode cX6_fillWords 179 = .ok (.iaload, 1) := by decide +kernel
theorem dX6_fillWords_180 : decode cX6_fillWords 180 = .ok (.iload_n 3, 1) := by decide +kernel
theorem dX6_fillWords_181 : decode cX6_fillWords 181 = .ok (.if_icmp .le 9, 3) := by decide +kernel
theorem dX6_fillWords_190 : decode cX6_fillWords 190 = .ok (.aload_n 2, 1) := by decide +kernel
theorem dX6_fillWords_191 : decode cX6_fillWords 191 = .ok (.getfield 72, 3) := by decide +kernel
theorem dX6_fillWords_194 : decode cX6_fillWords 194 = .ok (.iload 8, 2) := by decide +kernel
theorem dX6_fillWords_196 : decode cX6_fillWords 196 = .ok (.iaload, 1) := by decide +kernel
theorem dX6_fillWords_197 : decode cX6_fillWords 197 = .ok (.iload_n 3, 1) := by decide +kernel
theorem dX6_fillWords_198 : decode cX6_fillWords 198 = .ok (.if_icmp .ne 6, 3) := by decide +kernel
theorem dX6_fillWords_204 : decode cX6_fillWords 204 = .ok (.iinc 8 1, 3) := by decide +kernel
theorem dX6_fillWords_207 : decode cX6_fillWords 207 = .ok (.goto (-43), 3) := by decide +kernel
theorem dX6_fillWords_201 : decode cX6_fillWords 201 = .ok (.iinc 7 1, 3) := by decide +kernel
theorem dX6_fillWords_184 : decode cX6_fillWords 184 = .ok (.iinc 6 1, 3) := by decide +kernel
theorem dX6_fillWords_187 : decode cX6_fillWords 187 = .ok (.goto 17, 3) := by decide +kernel
theorem dX6_fillWords_124 : decode cX6_fillWords 124 = .ok (.iload 5, 2) := by decide +kernel
theorem dX6_fillWords_126 : decode cX6_fillWords 126 = .ok (.aload_n 2, 1) := by decide +kernel
theorem dX6_fillWords_127 : decode cX6_fillWords 127 = .ok (.getfield 63, 3) := by decide +kernel
theorem dX6_fillWords_130 : decode cX6_fillWords 130 = .ok (.iload 4, 2) := by decide +kernel
theorem dX6_fillWords_132 : decode cX6_fillWords 132 = .ok (.iload 6, 2) := by decide +kernel
theorem dX6_fillWords_134 : decode cX6_fillWords 134 = .ok (.iadd, 1) := by decide +kernel
theorem dX6_fillWords_135 : decode cX6_fillWords 135 = .ok (.iaload, 1) := by decide +kernel
theorem dX6_fillWords_136 : decode cX6_fillWords 136 = .ok (.iadd, 1) := by decide +kernel
theorem dX6_fillWords_137 : decode cX6_fillWords 137 = .ok (.istore 5, 2) := by decide +kernel
theorem dX6_fillWords_139 : decode cX6_fillWords 139 = .ok (.iinc 6 1, 3) := by decide +kernel
theorem dX6_fillWords_142 : decode cX6_fillWords 142 = .ok (.goto (-27), 3) := by decide +kernel
set_option maxHeartbeats 4000000 in
set_option maxRecDepth 100000 in
theorem cy_X6_fillWords_8 (l : Launch) (D : va_G) (cA : Nat → ClassId) (L : List Nat) (T : Nat → Nat) (r : Rg) (hG : GR L T r) (hL : L.Nodup) (σ : Sg) (ρ : Lg) (hW : WT L ry T σ) (sz : Nat) (h0 : Nat) (mh0 : h0 ∈ L) (th0 : T h0 = 6) (h1 : Nat) (mh1 : h1 ∈ L) (th1 : T h1 = 3) (h2 : Nat) (mh2 : h2 ∈ L) (th2 : T h2 = 8) (p3 : Int32) (w0 : 0 ≤ p3.toInt) (w1 : p3.toInt ≤ 7) : Met l yX6_fillWords (.code yX6_fillWords cX6_fillWords 9 none :: wsA) ({ frames := 1, cells := 0, slots := 0, locals := 22 }) (PR D cA L T r σ ρ sz [.ref h0, .ref h1, .ref h2, .int p3]) (QV D cA L T r ry ([] : List (Nat × Nat)) σ sz (fun σ1 => True)) 0 0 (dm L sz) := by
  refine Met.ofW (cc := cX6_fillWords) (maxL := 9) (ret := none) (by decide) rfl ?_
  intro p e s m args below meth c s₁ B hml hv
  obtain ⟨rfl, hsz, hP, hK, hN⟩ := hv
  have hx := B.exec
  have hb := B.bytes
  have hr := B.returns
  have hts : ∀ w ∈ wsA, w.before _ s = true := fun w h => atoms_spec (ws := .code yX6_fillWords cX6_fillWords 9 none :: wsA) B.pre w (List.mem_cons_of_mem _ h)
  have hown : s.vm.findClass RX6 = some m.cls := findClass_of_methodNamed B.named
  subst hsz
  have hLA : LA (dm L s.heap.size) L := ⟨hL, fun a h => Or.inl h⟩
  have hA : ∀ q : Nat, s.heap.size ≤ q → dm L s.heap.size q := fun q h => Or.inr h
  have hS : va_S (dm L s.heap.size) s.heap s.heap [] := va_S.rf
  have hB : TS D cA L T r ry ([] : List (Nat × Nat)) σ σ ρ s.heap := ⟨hP, hW, FR.rf⟩
  have hl := lv_entry ([.ref h0, .ref h1, .ref h2, .int p3]) (n := 9) (Nat.le_of_ble_eq_true rfl)
  rw [lg_entry_eq]
  generalize (lg_sl ([.ref h0, .ref h1, .ref h2, .int p3]) ++ List.replicate (9 - (lg_sl ([.ref h0, .ref h1, .ref h2, .int p3])).length) Slot.unset).toArray = ls at hl ⊢
  have hl : lv_has ls 9 [(0, .ref h0), (1, .ref h1), (2, .ref h2), (3, .int p3)] := hl
  refine lv_iload_n hx hb dX6_fillWords_0 rfl (lv_at hl 3 rfl) ?_
  refine lv_iconst (v := 5) hx hb dX6_fillWords_1 (by decide) ?_
  refine lv_imul hx hb dX6_fillWords_2 ?_
  refine lv_topi (fun x_1 ex_1 => ?_)
  have vx_1 := b_mul (rfl : p3.toInt = _) (by decide : (5 : Int32).toInt = 5) ex_1 (by omega) (by omega)
  refine lv_istore (lv' := [(4, .int x_1), (0, .ref h0), (1, .ref h1), (2, .ref h2), (3, .int p3)]) hx hb dX6_fillWords_3 hl (by decide) rfl (fun ls hl => ?_)
  refine lv_aload_n hx hb dX6_fillWords_5 rfl (lv_at hl 1 rfl) ?_
  refine t_gr hx hb hts hown hK hG hB mh0 th0 fq_6_0 rfl mw_2_67 dX6_fillWords_6 (fun b_2 hb_2 mb_2 tb_2 => ?_)
  refine lv_iconst (v := 0) hx hb dX6_fillWords_9 (by decide) ?_
  refine lv_iload_n hx hb dX6_fillWords_10 rfl (lv_at hl 4 rfl) ?_
  refine lv_i2l (v := p3.toInt64) hx hb dX6_fillWords_11 rfl ?_
  refine t_sl hx hb hK hLA hB hS mb_2 tb_2 aj_39 (i_in (by decide) (by decide)) dX6_fillWords_12 (fun H locs ρ_3 eρ_3 hB hS => ?_)
  refine lv_aload_n hx hb dX6_fillWords_13 rfl (lv_at hl 1 rfl) ?_
  refine t_gk hx hb hts hown hK hB mh0 th0 fq_6_0 hb_2 mw_2_67 dX6_fillWords_14 ?_
  refine lv_iconst (v := 1) hx hb dX6_fillWords_17 (by decide) ?_
  refine lv_aload_n hx hb dX6_fillWords_18 rfl (lv_at hl 2 rfl) ?_
  refine t_gr hx hb hts hown hK hG hB mh1 th1 fq_3_3 rfl mw_1_147 dX6_fillWords_19 (fun b_4 hb_4 mb_4 tb_4 => ?_)
  refine lv_iload_n hx hb dX6_fillWords_22 rfl (lv_at hl 4 rfl) ?_
  refine t_ai hx hb hK hB mb_4 tb_4 ai_36 (fun _ => rfl) (i_in (by omega) (by omega)) dX6_fillWords_23 (fun x_5 ex_5 lx_5 ux_5 => ?_)
  refine lv_i2l (v := x_5.toInt64) hx hb dX6_fillWords_24 rfl ?_
  refine t_sl hx hb hK hLA hB hS mb_2 tb_2 aj_39 (i_in (by decide) (by decide)) dX6_fillWords_25 (fun H locs ρ_6 eρ_6 hB hS => ?_)
  refine lv_aload_n hx hb dX6_fillWords_26 rfl (lv_at hl 1 rfl) ?_
  refine t_gk hx hb hts hown hK hB mh0 th0 fq_6_0 hb_2 mw_2_67 dX6_fillWords_27 ?_
  refine lv_iconst (v := 2) hx hb dX6_fillWords_30 (by decide) ?_
  refine lv_aload_n hx hb dX6_fillWords_31 rfl (lv_at hl 2 rfl) ?_
  refine t_gr hx hb hts hown hK hG hB mh1 th1 fq_3_4 rfl mw_1_153 dX6_fillWords_32 (fun b_7 hb_7 mb_7 tb_7 => ?_)
  refine lv_iload_n hx hb dX6_fillWords_35 rfl (lv_at hl 4 rfl) ?_
  refine t_ai hx hb hK hB mb_7 tb_7 ai_37 (fun _ => rfl) (i_in (by omega) (by omega)) dX6_fillWords_36 (fun x_8 ex_8 lx_8 ux_8 => ?_)
  refine lv_i2l (v := x_8.toInt64) hx hb dX6_fillWords_37 rfl ?_
  refine t_sl hx hb hK hLA hB hS mb_2 tb_2 aj_39 (i_in (by decide) (by decide)) dX6_fillWords_38 (fun H locs ρ_9 eρ_9 hB hS => ?_)
  refine lv_aload_n hx hb dX6_fillWords_39 rfl (lv_at hl 1 rfl) ?_
  refine t_gk hx hb hts hown hK hB mh0 th0 fq_6_0 hb_2 mw_2_67 dX6_fillWords_40 ?_
  refine lv_iconst (v := 3) hx hb dX6_fillWords_43 (by decide) ?_
  refine lv_aload_n hx hb dX6_fillWords_44 rfl (lv_at hl 2 rfl) ?_
  refine lv_iload_n hx hb dX6_fillWords_45 rfl (lv_at hl 4 rfl) ?_
  refine lv_aload_n hx hb dX6_fillWords_46 rfl (lv_at hl 3 rfl) ?_
  refine t_gi hx hb hts hown hK hB mh2 th2 fi_8_6 rfl mw_1_105 dX6_fillWords_47 (fun x_10 ex_10 lx_10 ux_10 => ?_)
  refine t_ci (va_runV (As := [.int p3, .int x_10]) (rest := [.int 3, .ref b_2]) ⟨hx, hb, hml, hown, hts⟩ (cy_X3_askedAt l D cA L T r hG hLA.1 σ ρ_9 hB.2.1 _ h1 mh1 th1 p3 x_10 (by first | omega | decide) (by first | omega | decide)) (cV hts mv_X3_askedAt mw_4_122 rfl rfl ⟨Nat.le_of_ble_eq_true rfl, Nat.le_of_ble_eq_true rfl⟩) (pV hB.1 hK hN mh1 th1 (show shp cA 3 _ _ _ = .inr (3, Fs3 _ _ _) from rfl) rfl) rfl rfl hl.1 rfl (lv_room (Nat.le_of_ble_eq_true rfl)) dX6_fillWords_50 ⟨Nat.le_of_ble_eq_true rfl, Nat.le_of_ble_eq_true rfl⟩) hLA hA hB hS (by decide) (fun x_13 σ_11 ρ_12 H locs hB fσ_11 pσ_11 hS => ?_)
  have qσ_11 := FR.nil fσ_11
  subst qσ_11
  obtain ⟨lx_13, ux_13⟩ := pσ_11
  refine lv_i2l (v := x_13.toInt64) hx hb dX6_fillWords_53 rfl ?_
  refine t_sl hx hb hK hLA hB hS mb_2 tb_2 aj_39 (i_in (by decide) (by decide)) dX6_fillWords_54 (fun H locs ρ_14 eρ_14 hB hS => ?_)
  refine lv_aload_n hx hb dX6_fillWords_55 rfl (lv_at hl 1 rfl) ?_
  refine t_gk hx hb hts hown hK hB mh0 th0 fq_6_0 hb_2 mw_2_67 dX6_fillWords_56 ?_
  refine lv_iconst (v := 4) hx hb dX6_fillWords_59 (by decide) ?_
  refine lv_aload_n hx hb dX6_fillWords_60 rfl (lv_at hl 3 rfl) ?_
  refine t_gi hx hb hts hown hK hB mh2 th2 fi_8_7 rfl mw_1_111 dX6_fillWords_61 (fun x_15 ex_15 lx_15 ux_15 => ?_)
  refine lv_i2l (v := x_15.toInt64) hx hb dX6_fillWords_64 rfl ?_
  refine t_sl hx hb hK hLA hB hS mb_2 tb_2 aj_39 (i_in (by decide) (by decide)) dX6_fillWords_65 (fun H locs ρ_16 eρ_16 hB hS => ?_)
  refine lv_aload_n hx hb dX6_fillWords_66 rfl (lv_at hl 1 rfl) ?_
  refine t_gk hx hb hts hown hK hB mh0 th0 fq_6_0 hb_2 mw_2_67 dX6_fillWords_67 ?_
  refine lv_iconst (v := 5) hx hb dX6_fillWords_70 (by decide) ?_
  refine lv_aload_n hx hb dX6_fillWords_71 rfl (lv_at hl 3 rfl) ?_
  refine t_gr hx hb hts hown hK hG hB mh2 th2 fq_8_5 rfl mw_1_102 dX6_fillWords_72 (fun b_17 hb_17 mb_17 tb_17 => ?_)
  refine lv_iload hx hb dX6_fillWords_75 (lv_at hl 0 rfl) ?_
  refine lv_aload_n hx hb dX6_fillWords_77 rfl (lv_at hl 2 rfl) ?_
  refine t_gk hx hb hts hown hK hB mh1 th1 fq_3_3 hb_4 mw_1_147 dX6_fillWords_78 ?_
  refine lv_iload_n hx hb dX6_fillWords_81 rfl (lv_at hl 4 rfl) ?_
  refine t_ai hx hb hK hB mb_4 tb_4 ai_36 (fun _ => rfl) (i_in (by omega) (by omega)) dX6_fillWords_82 (fun x_18 ex_18 lx_18 ux_18 => ?_)
  have qx_18 : x_18 = x_5 := ex_18.trans ex_5.symm
  have qx_18 := qx_18.symm
  subst qx_18
  refine lv_iadd hx hb dX6_fillWords_83 ?_
  refine lv_topi (fun x_19 ex_19 => ?_)
  have vx_19 := b_add (rfl : x_1.toInt = _) (rfl : x_5.toInt = _) ex_19 (by omega) (by omega)
  refine t_ai hx hb hK hB mb_17 tb_17 ai_50 (fun _ => rfl) (i_in (by omega) (by omega)) dX6_fillWords_84 (fun x_20 ex_20 lx_20 ux_20 => ?_)
  refine lv_i2l (v := x_20.toInt64) hx hb dX6_fillWords_85 rfl ?_
  refine t_sl hx hb hK hLA hB hS mb_2 tb_2 aj_39 (i_in (by decide) (by decide)) dX6_fillWords_86 (fun H locs ρ_21 eρ_21 hB hS => ?_)
  refine lv_aload_n hx hb dX6_fillWords_87 rfl (lv_at hl 1 rfl) ?_
  refine t_gk hx hb hts hown hK hB mh0 th0 fq_6_0 hb_2 mw_2_67 dX6_fillWords_88 ?_
  refine lv_bipush (v := 6) hx hb dX6_fillWords_91 (by decide) ?_
  refine lv_aload_n hx hb dX6_fillWords_93 rfl (lv_at hl 3 rfl) ?_
  refine t_gk hx hb hts hown hK hB mh2 th2 fq_8_5 hb_17 mw_1_102 dX6_fillWords_94 ?_
  refine lv_iload hx hb dX6_fillWords_97 (lv_at hl 0 rfl) ?_
  refine lv_aload_n hx hb dX6_fillWords_99 rfl (lv_at hl 2 rfl) ?_
  refine t_gk hx hb hts hown hK hB mh1 th1 fq_3_4 hb_7 mw_1_153 dX6_fillWords_100 ?_
  refine lv_iload_n hx hb dX6_fillWords_103 rfl (lv_at hl 4 rfl) ?_
  refine t_ai hx hb hK hB mb_7 tb_7 ai_37 (fun _ => rfl) (i_in (by omega) (by omega)) dX6_fillWords_104 (fun x_22 ex_22 lx_22 ux_22 => ?_)
  have qx_22 : x_22 = x_8 := ex_22.trans ex_8.symm
  have qx_22 := qx_22.symm
  subst qx_22
  refine lv_iadd hx hb dX6_fillWords_105 ?_
  refine lv_topi (fun x_23 ex_23 => ?_)
  have vx_23 := b_add (rfl : x_1.toInt = _) (rfl : x_8.toInt = _) ex_23 (by omega) (by omega)
  refine t_ai hx hb hK hB mb_17 tb_17 ai_50 (fun _ => rfl) (i_in (by omega) (by omega)) dX6_fillWords_106 (fun x_24 ex_24 lx_24 ux_24 => ?_)
  refine lv_i2l (v := x_24.toInt64) hx hb dX6_fillWords_107 rfl ?_
  refine t_sl hx hb hK hLA hB hS mb_2 tb_2 aj_39 (i_in (by decide) (by decide)) dX6_fillWords_108 (fun H locs ρ_25 eρ_25 hB hS => ?_)
  refine lv_iconst (v := 0) hx hb dX6_fillWords_109 (by decide) ?_
  refine lv_istore (lv' := [(5, .int 0), (4, .int x_1), (0, .ref h0), (1, .ref h1), (2, .ref h2), (3, .int p3)]) hx hb dX6_fillWords_110 hl (by decide) rfl (fun ls hl => ?_)
  refine lv_iconst (v := 0) hx hb dX6_fillWords_112 (by decide) ?_
  refine lv_istore (lv' := [(6, .int 0), (5, .int 0), (4, .int x_1), (0, .ref h0), (1, .ref h1), (2, .ref h2), (3, .int p3)]) hx hb dX6_fillWords_113 hl (by decide) rfl (fun ls hl => ?_)
  refine w_loop (α := Int32 × Int32 × Sg × Lg) (fun (i_26, i_27, σ_28, ρ_29) H locs ls => 0 ≤ i_27.toInt ∧ i_27.toInt ≤ 5 ∧ σ_28 h2 6 = x_10 ∧ σ_28 h2 7 = x_15 ∧ TS D cA L T r ry ([] : List (Nat × Nat)) σ σ_28 ρ_29 H ∧ va_S (dm L s.heap.size) s.heap H locs ∧ lv_has ls 9 [(6, .int i_27), (5, .int i_26), (4, .int x_1), (0, .ref h0), (1, .ref h1), (2, .ref h2), (3, .int p3)]) (fun (i_26, i_27, σ_28, ρ_29) => (5 - i_27.toInt).toNat) ?_ ⟨0, 0, σ, ρ_25⟩ ⟨(by decide), (by decide), ex_10.symm, ex_15.symm, hB, hS, lv_sub hl [0, 1, 2, 3, 4, 5, 6] rfl⟩
  rintro ⟨i_26, i_27, σ_28, ρ_29⟩ H locs ls ⟨li_27, ui_27, k_31, k_32, hB, hS, hl⟩ ih_30
  refine lv_iload hx hb dX6_fillWords_115 (lv_at hl 0 rfl) ?_
  refine lv_aload_n hx hb dX6_fillWords_117 rfl (lv_at hl 4 rfl) ?_
  refine t_gi hx hb hts hown hK hB mh1 th1 fi_3_8 rfl mw_1_173 dX6_fillWords_118 (fun x_33 ex_33 lx_33 ux_33 => ?_)
  refine lv_icmp_ge (tgt := 145) hx hb dX6_fillWords_121 (by decide) (fun c_34 => ?_) (fun c_34 => ?_)
  · skip
    have uc_34 := j_le c_34
    refine lv_aload_n hx hb dX6_fillWords_145 rfl (lv_at hl 3 rfl) ?_
    refine t_gk hx hb hts hown hK hB mh0 th0 fq_6_0 hb_2 mw_2_67 dX6_fillWords_146 ?_
    refine lv_bipush (v := 9) hx hb dX6_fillWords_149 (by decide) ?_
    refine lv_iload hx hb dX6_fillWords_151 (lv_at hl 1 rfl) ?_
    refine lv_i2l (v := i_26.toInt64) hx hb dX6_fillWords_153 rfl ?_
    refine t_sl hx hb hK hLA hB hS mb_2 tb_2 aj_39 (i_in (by decide) (by decide)) dX6_fillWords_154 (fun H locs ρ_35 eρ_35 hB hS => ?_)
    refine lv_iconst (v := 0) hx hb dX6_fillWords_155 (by decide) ?_
    refine lv_istore (lv' := [(6, .int 0), (5, .int i_26), (4, .int x_1), (0, .ref h0), (1, .ref h1), (2, .ref h2), (3, .int p3)]) hx hb dX6_fillWords_156 hl (by decide) rfl (fun ls hl => ?_)
    refine lv_iconst (v := 0) hx hb dX6_fillWords_158 (by decide) ?_
    refine lv_istore (lv' := [(7, .int 0), (6, .int 0), (5, .int i_26), (4, .int x_1), (0, .ref h0), (1, .ref h1), (2, .ref h2), (3, .int p3)]) hx hb dX6_fillWords_159 hl (by decide) rfl (fun ls hl => ?_)
    refine lv_iconst (v := 0) hx hb dX6_fillWords_161 (by decide) ?_
    refine lv_istore (lv' := [(8, .int 0), (7, .int 0), (6, .int 0), (5, .int i_26), (4, .int x_1), (0, .ref h0), (1, .ref h1), (2, .ref h2), (3, .int p3)]) hx hb dX6_fillWords_162 hl (by decide) rfl (fun ls hl => ?_)
    refine w_loop (α := Int32 × Int32 × Int32 × Sg × Lg) (fun (i_36, i_37, i_38, σ_39, ρ_40) H locs ls => 0 ≤ i_38.toInt ∧ i_38.toInt ≤ 4 ∧ σ_39 h2 6 = x_10 ∧ σ_39 h2 7 = x_15 ∧ σ_39 h1 8 = x_33 ∧ TS D cA L T r ry ([] : List (Nat × Nat)) σ σ_39 ρ_40 H ∧ va_S (dm L s.heap.size) s.heap H locs ∧ lv_has ls 9 [(8, .int i_38), (7, .int i_37), (6, .int i_36), (5, .int i_26), (4, .int x_1), (0, .ref h0), (1, .ref h1), (2, .ref h2), (3, .int p3)]) (fun (i_36, i_37, i_38, σ_39, ρ_40) => (4 - i_38.toInt).toNat) ?_ ⟨0, 0, 0, σ_28, ρ_35⟩ ⟨(by decide), (by decide), k_31, k_32, ex_33.symm, hB, hS, lv_sub hl [0, 1, 2, 3, 4, 5, 6, 7, 8] rfl⟩
    rintro ⟨i_36, i_37, i_38, σ_39, ρ_40⟩ H locs ls ⟨li_38, ui_38, k_42, k_43, k_44, hB, hS, hl⟩ ih_41
    refine lv_iload hx hb dX6_fillWords_164 (lv_at hl 0 rfl) ?_
    refine lv_aload_n hx hb dX6_fillWords_166 rfl (lv_at hl 6 rfl) ?_
    refine t_gi hx hb hts hown hK hB mh1 th1 fi_3_10 rfl mw_1_186 dX6_fillWords_167 (fun x_45 ex_45 lx_45 ux_45 => ?_)
    refine lv_icmp_ge (tgt := 210) hx hb dX6_fillWords_170 (by decide) (fun c_46 => ?_) (fun c_46 => ?_)
    · skip
      have uc_46 := j_le c_46
      refine lv_aload_n hx hb dX6_fillWords_210 rfl (lv_at hl 5 rfl) ?_
      refine t_gk hx hb hts hown hK hB mh0 th0 fq_6_0 hb_2 mw_2_67 dX6_fillWords_211 ?_
      refine lv_bipush (v := 7) hx hb dX6_fillWords_214 (by decide) ?_
      refine lv_iload hx hb dX6_fillWords_216 (lv_at hl 2 rfl) ?_
      refine lv_i2l (v := i_36.toInt64) hx hb dX6_fillWords_218 rfl ?_
      refine t_sl hx hb hK hLA hB hS mb_2 tb_2 aj_39 (i_in (by decide) (by decide)) dX6_fillWords_219 (fun H locs ρ_47 eρ_47 hB hS => ?_)
      refine lv_aload_n hx hb dX6_fillWords_220 rfl (lv_at hl 5 rfl) ?_
      refine t_gk hx hb hts hown hK hB mh0 th0 fq_6_0 hb_2 mw_2_67 dX6_fillWords_221 ?_
      refine lv_bipush (v := 8) hx hb dX6_fillWords_224 (by decide) ?_
      refine lv_iload hx hb dX6_fillWords_226 (lv_at hl 1 rfl) ?_
      refine lv_i2l (v := i_37.toInt64) hx hb dX6_fillWords_228 rfl ?_
      refine t_sl hx hb hK hLA hB hS mb_2 tb_2 aj_39 (i_in (by decide) (by decide)) dX6_fillWords_229 (fun H locs ρ_48 eρ_48 hB hS => ?_)
      exact W.vret hx hb hr (fun t ht hW => ⟨⟨(σ_39, ρ_48), rfl, ⟨hB.2.1, hB.2.2, trivial⟩, (show TP D cA L T r σ_39 ρ_48 t.heap from by rw [ht]; exact hB.1)⟩, hS.F ht⟩) hS.2.2 dX6_fillWords_230
    · skip
      have uc_46 := j_nle c_46
      refine lv_aload_n hx hb dX6_fillWords_173 rfl (lv_at hl 7 rfl) ?_
      refine t_gr hx hb hts hown hK hG hB mh2 th2 fq_8_0 rfl mw_1_83 dX6_fillWords_174 (fun b_49 hb_49 mb_49 tb_49 => ?_)
      refine lv_iload hx hb dX6_fillWords_177 (lv_at hl 0 rfl) ?_
      refine t_ai hx hb hK hB mb_49 tb_49 ai_45 (fun _ => rfl) (i_in (by omega) (by omega)) dX6_fillWords_179 (fun x_50 ex_50 lx_50 ux_50 => ?_)
      refine lv_iload_n hx hb dX6_fillWords_180 rfl (lv_at hl 8 rfl) ?_
      refine lv_icmp_le (tgt := 190) hx hb dX6_fillWords_181 (by decide) (fun c_51 => ?_) (fun c_51 => ?_)
      · skip
        have uc_51 := j_le c_51
        refine lv_aload_n hx hb dX6_fillWords_190 rfl (lv_at hl 7 rfl) ?_
        refine t_gk hx hb hts hown hK hB mh2 th2 fq_8_0 hb_49 mw_1_83 dX6_fillWords_191 ?_
        refine lv_iload hx hb dX6_fillWords_194 (lv_at hl 0 rfl) ?_
        refine t_ai hx hb hK hB mb_49 tb_49 ai_45 (fun _ => rfl) (i_in (by omega) (by omega)) dX6_fillWords_196 (fun x_52 ex_52 lx_52 ux_52 => ?_)
        have qx_52 : x_52 = x_50 := ex_52.trans ex_50.symm
        have qx_52 := qx_52.symm
        subst qx_52
        refine lv_iload_n hx hb dX6_fillWords_197 rfl (lv_at hl 8 rfl) ?_
        refine lv_icmp_ne (tgt := 204) hx hb dX6_fillWords_198 (by decide) (fun c_53 => ?_) (fun c_53 => ?_)
        · skip
          have uc_53 := j_ne c_53
          obtain ⟨x_54, ex_54⟩ : ∃ y : Int32, y = i_38 + 1 := ⟨_, rfl⟩
          have vx_54 := b_add (rfl : i_38.toInt = _) (by decide : (1 : Int32).toInt = 1) ex_54 (by omega) (by omega)
          refine lv_iinc (v := x_54) (lv' := [(8, .int x_54), (7, .int i_37), (6, .int i_36), (5, .int i_26), (4, .int x_1), (0, .ref h0), (1, .ref h1), (2, .ref h2), (3, .int p3)]) hx hb dX6_fillWords_204 hl (k := 0) rfl (by rw [ex_54]; rfl) (by decide) rfl (fun ls hl => ?_)
          refine lv_goto (tgt := 164) hx hb dX6_fillWords_207 (by decide) ?_
          exact ih_41 ⟨i_36, i_37, x_54, σ_39, ρ_40⟩ _ _ _ ⟨(by omega), (by omega), k_42, k_43, k_44, hB, hS, lv_sub hl [0, 1, 2, 3, 4, 5, 6, 7, 8] rfl⟩ (by show (4 - x_54.toInt).toNat < (4 - i_38.toInt).toNat; omega)
        · skip
          have uc_53 := j_eq c_53
          obtain ⟨x_55, ex_55⟩ : ∃ y : Int32, y = i_37 + 1 := ⟨_, rfl⟩
          refine lv_iinc (v := x_55) (lv' := [(7, .int x_55), (8, .int i_38), (6, .int i_36), (5, .int i_26), (4, .int x_1), (0, .ref h0), (1, .ref h1), (2, .ref h2), (3, .int p3)]) hx hb dX6_fillWords_201 hl (k := 1) rfl (by rw [ex_55]; rfl) (by decide) rfl (fun ls hl => ?_)
          obtain ⟨x_56, ex_56⟩ : ∃ y : Int32, y = i_38 + 1 := ⟨_, rfl⟩
          have vx_56 := b_add (rfl : i_38.toInt = _) (by decide : (1 : Int32).toInt = 1) ex_56 (by omega) (by omega)
          refine lv_iinc (v := x_56) (lv' := [(8, .int x_56), (7, .int x_55), (6, .int i_36), (5, .int i_26), (4, .int x_1), (0, .ref h0), (1, .ref h1), (2, .ref h2), (3, .int p3)]) hx hb dX6_fillWords_204 hl (k := 1) rfl (by rw [ex_56]; rfl) (by decide) rfl (fun ls hl => ?_)
          refine lv_goto (tgt := 164) hx hb dX6_fillWords_207 (by decide) ?_
          exact ih_41 ⟨i_36, x_55, x_56, σ_39, ρ_40⟩ _ _ _ ⟨(by omega), (by omega), k_42, k_43, k_44, hB, hS, lv_sub hl [0, 1, 2, 3, 4, 5, 6, 7, 8] rfl⟩ (by show (4 - x_56.toInt).toNat < (4 - i_38.toInt).toNat; omega)
      · skip
        have uc_51 := j_nle c_51
        obtain ⟨x_57, ex_57⟩ : ∃ y : Int32, y = i_36 + 1 := ⟨_, rfl⟩
        refine lv_iinc (v := x_57) (lv' := [(6, .int x_57), (8, .int i_38), (7, .int i_37), (5, .int i_26), (4, .int x_1), (0, .ref h0), (1, .ref h1), (2, .ref h2), (3, .int p3)]) hx hb dX6_fillWords_184 hl (k := 2) rfl (by rw [ex_57]; rfl) (by decide) rfl (fun ls hl => ?_)
        refine lv_goto (tgt := 204) hx hb dX6_fillWords_187 (by decide) ?_
        obtain ⟨x_58, ex_58⟩ : ∃ y : Int32, y = i_38 + 1 := ⟨_, rfl⟩
        have vx_58 := b_add (rfl : i_38.toInt = _) (by decide : (1 : Int32).toInt = 1) ex_58 (by omega) (by omega)
        refine lv_iinc (v := x_58) (lv' := [(8, .int x_58), (6, .int x_57), (7, .int i_37), (5, .int i_26), (4, .int x_1), (0, .ref h0), (1, .ref h1), (2, .ref h2), (3, .int p3)]) hx hb dX6_fillWords_204 hl (k := 1) rfl (by rw [ex_58]; rfl) (by decide) rfl (fun ls hl => ?_)
        refine lv_goto (tgt := 164) hx hb dX6_fillWords_207 (by decide) ?_
        exact ih_41 ⟨x_57, i_37, x_58, σ_39, ρ_40⟩ _ _ _ ⟨(by omega), (by omega), k_42, k_43, k_44, hB, hS, lv_sub hl [0, 2, 1, 3, 4, 5, 6, 7, 8] rfl⟩ (by show (4 - x_58.toInt).toNat < (4 - i_38.toInt).toNat; omega)
  · skip
    have uc_34 := j_nle c_34
    refine lv_iload hx hb dX6_fillWords_124 (lv_at hl 1 rfl) ?_
    refine lv_aload_n hx hb dX6_fillWords_126 rfl (lv_at hl 5 rfl) ?_
    refine t_gk hx hb hts hown hK hB mh2 th2 fq_8_5 hb_17 mw_1_102 dX6_fillWords_127 ?_
    refine lv_iload hx hb dX6_fillWords_130 (lv_at hl 2 rfl) ?_
    refine lv_iload hx hb dX6_fillWords_132 (lv_at hl 0 rfl) ?_
    refine lv_iadd hx hb dX6_fillWords_134 ?_
    refine lv_topi (fun x_59 ex_59 => ?_)
    have vx_59 := b_add (rfl : x_1.toInt = _) (rfl : i_27.toInt = _) ex_59 (by omega) (by omega)
    refine t_ai hx hb hK hB mb_17 tb_17 ai_50 (fun _ => rfl) (i_in (by omega) (by omega)) dX6_fillWords_135 (fun x_60 ex_60 lx_60 ux_60 => ?_)
    refine lv_iadd hx hb dX6_fillWords_136 ?_
    refine lv_topi (fun x_61 ex_61 => ?_)
    refine lv_istore (lv' := [(5, .int x_61), (6, .int i_27), (4, .int x_1), (0, .ref h0), (1, .ref h1), (2, .ref h2), (3, .int p3)]) hx hb dX6_fillWords_137 hl (by decide) rfl (fun ls hl => ?_)
    obtain ⟨x_62, ex_62⟩ : ∃ y : Int32, y = i_27 + 1 := ⟨_, rfl⟩
    have vx_62 := b_add (rfl : i_27.toInt = _) (by decide : (1 : Int32).toInt = 1) ex_62 (by omega) (by omega)
    refine lv_iinc (v := x_62) (lv' := [(6, .int x_62), (5, .int x_61), (4, .int x_1), (0, .ref h0), (1, .ref h1), (2, .ref h2), (3, .int p3)]) hx hb dX6_fillWords_139 hl (k := 1) rfl (by rw [ex_62]; rfl) (by decide) rfl (fun ls hl => ?_)
    refine lv_goto (tgt := 115) hx hb dX6_fillWords_142 (by decide) ?_
    exact ih_30 ⟨x_61, x_62, σ_28, ρ_29⟩ _ _ _ ⟨(by omega), (by omega), k_31, k_32, hB, hS, lv_sub hl [0, 1, 2, 3, 4, 5, 6] rfl⟩ (by show (5 - x_62.toInt).toNat < (5 - i_27.toInt).toNat; omega)
set_option maxHeartbeats 4000000 in
set_option maxRecDepth 100000 in
theorem cy_X6_fillWords_103 (l : Launch) (D : va_G) (cA : Nat → ClassId) (L : List Nat) (T : Nat → Nat) (r : Rg) (hG : GR L T r) (hL : L.Nodup) (σ : Sg) (ρ : Lg) (hW : WT L ry T σ) (sz : Nat) (h0 : Nat) (mh0 : h0 ∈ L) (th0 : T h0 = 6) (h1 : Nat) (mh1 : h1 ∈ L) (th1 : T h1 = 3) (h2 : Nat) (mh2 : h2 ∈ L) (th2 : T h2 = 103) (p3 : Int32) (w0 : 0 ≤ p3.toInt) (w1 : p3.toInt ≤ 7) : Met l yX6_fillWords (.code yX6_fillWords cX6_fillWords 9 none :: wsA) ({ frames := 1, cells := 0, slots := 0, locals := 22 }) (PR D cA L T r σ ρ sz [.ref h0, .ref h1, .ref h2, .int p3]) (QV D cA L T r ry ([] : List (Nat × Nat)) σ sz (fun σ1 => True)) 0 0 (dm L sz) := by
  refine Met.ofW (cc := cX6_fillWords) (maxL := 9) (ret := none) (by decide) rfl ?_
  intro p e s m args below meth c s₁ B hml hv
  obtain ⟨rfl, hsz, hP, hK, hN⟩ := hv
  have hx := B.exec
  have hb := B.bytes
  have hr := B.returns
  have hts : ∀ w ∈ wsA, w.before _ s = true := fun w h => atoms_spec (ws := .code yX6_fillWords cX6_fillWords 9 none :: wsA) B.pre w (List.mem_cons_of_mem _ h)
  have hown : s.vm.findClass RX6 = some m.cls := findClass_of_methodNamed B.named
  subst hsz
  have hLA : LA (dm L s.heap.size) L := ⟨hL, fun a h => Or.inl h⟩
  have hA : ∀ q : Nat, s.heap.size ≤ q → dm L s.heap.size q := fun q h => Or.inr h
  have hS : va_S (dm L s.heap.size) s.heap s.heap [] := va_S.rf
  have hB : TS D cA L T r ry ([] : List (Nat × Nat)) σ σ ρ s.heap := ⟨hP, hW, FR.rf⟩
  have hl := lv_entry ([.ref h0, .ref h1, .ref h2, .int p3]) (n := 9) (Nat.le_of_ble_eq_true rfl)
  rw [lg_entry_eq]
  generalize (lg_sl ([.ref h0, .ref h1, .ref h2, .int p3]) ++ List.replicate (9 - (lg_sl ([.ref h0, .ref h1, .ref h2, .int p3])).length) Slot.unset).toArray = ls at hl ⊢
  have hl : lv_has ls 9 [(0, .ref h0), (1, .ref h1), (2, .ref h2), (3, .int p3)] := hl
  refine lv_iload_n hx hb dX6_fillWords_0 rfl (lv_at hl 3 rfl) ?_
  refine lv_iconst (v := 5) hx hb dX6_fillWords_1 (by decide) ?_
  refine lv_imul hx hb dX6_fillWords_2 ?_
  refine lv_topi (fun x_1 ex_1 => ?_)
  have vx_1 := b_mul (rfl : p3.toInt = _) (by decide : (5 : Int32).toInt = 5) ex_1 (by omega) (by omega)
  refine lv_istore (lv' := [(4, .int x_1), (0, .ref h0), (1, .ref h1), (2, .ref h2), (3, .int p3)]) hx hb dX6_fillWords_3 hl (by decide) rfl (fun ls hl => ?_)
  refine lv_aload_n hx hb dX6_fillWords_5 rfl (lv_at hl 1 rfl) ?_
  refine t_gr hx hb hts hown hK hG hB mh0 th0 fq_6_0 rfl mw_2_67 dX6_fillWords_6 (fun b_2 hb_2 mb_2 tb_2 => ?_)
  refine lv_iconst (v := 0) hx hb dX6_fillWords_9 (by decide) ?_
  refine lv_iload_n hx hb dX6_fillWords_10 rfl (lv_at hl 4 rfl) ?_
  refine lv_i2l (v := p3.toInt64) hx hb dX6_fillWords_11 rfl ?_
  refine t_sl hx hb hK hLA hB hS mb_2 tb_2 aj_39 (i_in (by decide) (by decide)) dX6_fillWords_12 (fun H locs ρ_3 eρ_3 hB hS => ?_)
  refine lv_aload_n hx hb dX6_fillWords_13 rfl (lv_at hl 1 rfl) ?_
  refine t_gk hx hb hts hown hK hB mh0 th0 fq_6_0 hb_2 mw_2_67 dX6_fillWords_14 ?_
  refine lv_iconst (v := 1) hx hb dX6_fillWords_17 (by decide) ?_
  refine lv_aload_n hx hb dX6_fillWords_18 rfl (lv_at hl 2 rfl) ?_
  refine t_gr hx hb hts hown hK hG hB mh1 th1 fq_3_3 rfl mw_1_147 dX6_fillWords_19 (fun b_4 hb_4 mb_4 tb_4 => ?_)
  refine lv_iload_n hx hb dX6_fillWords_22 rfl (lv_at hl 4 rfl) ?_
  refine t_ai hx hb hK hB mb_4 tb_4 ai_36 (fun _ => rfl) (i_in (by omega) (by omega)) dX6_fillWords_23 (fun x_5 ex_5 lx_5 ux_5 => ?_)
  refine lv_i2l (v := x_5.toInt64) hx hb dX6_fillWords_24 rfl ?_
  refine t_sl hx hb hK hLA hB hS mb_2 tb_2 aj_39 (i_in (by decide) (by decide)) dX6_fillWords_25 (fun H locs ρ_6 eρ_6 hB hS => ?_)
  refine lv_aload_n hx hb dX6_fillWords_26 rfl (lv_at hl 1 rfl) ?_
  refine t_gk hx hb hts hown hK hB mh0 th0 fq_6_0 hb_2 mw_2_67 dX6_fillWords_27 ?_
  refine lv_iconst (v := 2) hx hb dX6_fillWords_30 (by decide) ?_
  refine lv_aload_n hx hb dX6_fillWords_31 rfl (lv_at hl 2 rfl) ?_
  refine t_gr hx hb hts hown hK hG hB mh1 th1 fq_3_4 rfl mw_1_153 dX6_fillWords_32 (fun b_7 hb_7 mb_7 tb_7 => ?_)
  refine lv_iload_n hx hb dX6_fillWords_35 rfl (lv_at hl 4 rfl) ?_
  refine t_ai hx hb hK hB mb_7 tb_7 ai_37 (fun _ => rfl) (i_in (by omega) (by omega)) dX6_fillWords_36 (fun x_8 ex_8 lx_8 ux_8 => ?_)
  refine lv_i2l (v := x_8.toInt64) hx hb dX6_fillWords_37 rfl ?_
  refine t_sl hx hb hK hLA hB hS mb_2 tb_2 aj_39 (i_in (by decide) (by decide)) dX6_fillWords_38 (fun H locs ρ_9 eρ_9 hB hS => ?_)
  refine lv_aload_n hx hb dX6_fillWords_39 rfl (lv_at hl 1 rfl) ?_
  refine t_gk hx hb hts hown hK hB mh0 th0 fq_6_0 hb_2 mw_2_67 dX6_fillWords_40 ?_
  refine lv_iconst (v := 3) hx hb dX6_fillWords_43 (by decide) ?_
  refine lv_aload_n hx hb dX6_fillWords_44 rfl (lv_at hl 2 rfl) ?_
  refine lv_iload_n hx hb dX6_fillWords_45 rfl (lv_at hl 4 rfl) ?_
  refine lv_aload_n hx hb dX6_fillWords_46 rfl (lv_at hl 3 rfl) ?_
  refine t_gi hx hb hts hown hK hB mh2 th2 fi_103_6 rfl mw_1_105 dX6_fillWords_47 (fun x_10 ex_10 lx_10 ux_10 => ?_)
  refine t_ci (va_runV (As := [.int p3, .int x_10]) (rest := [.int 3, .ref b_2]) ⟨hx, hb, hml, hown, hts⟩ (cy_X3_askedAt l D cA L T r hG hLA.1 σ ρ_9 hB.2.1 _ h1 mh1 th1 p3 x_10 (by first | omega | decide) (by first | omega | decide)) (cV hts mv_X3_askedAt mw_4_122 rfl rfl ⟨Nat.le_of_ble_eq_true rfl, Nat.le_of_ble_eq_true rfl⟩) (pV hB.1 hK hN mh1 th1 (show shp cA 3 _ _ _ = .inr (3, Fs3 _ _ _) from rfl) rfl) rfl rfl hl.1 rfl (lv_room (Nat.le_of_ble_eq_true rfl)) dX6_fillWords_50 ⟨Nat.le_of_ble_eq_true rfl, Nat.le_of_ble_eq_true rfl⟩) hLA hA hB hS (by decide) (fun x_13 σ_11 ρ_12 H locs hB fσ_11 pσ_11 hS => ?_)
  have qσ_11 := FR.nil fσ_11
  subst qσ_11
  obtain ⟨lx_13, ux_13⟩ := pσ_11
  refine lv_i2l (v := x_13.toInt64) hx hb dX6_fillWords_53 rfl ?_
  refine t_sl hx hb hK hLA hB hS mb_2 tb_2 aj_39 (i_in (by decide) (by decide)) dX6_fillWords_54 (fun H locs ρ_14 eρ_14 hB hS => ?_)
  refine lv_aload_n hx hb dX6_fillWords_55 rfl (lv_at hl 1 rfl) ?_
  refine t_gk hx hb hts hown hK hB mh0 th0 fq_6_0 hb_2 mw_2_67 dX6_fillWords_56 ?_
  refine lv_iconst (v := 4) hx hb dX6_fillWords_59 (by decide) ?_
  refine lv_aload_n hx hb dX6_fillWords_60 rfl (lv_at hl 3 rfl) ?_
  refine t_gi hx hb hts hown hK hB mh2 th2 fi_103_7 rfl mw_1_111 dX6_fillWords_61 (fun x_15 ex_15 lx_15 ux_15 => ?_)
  refine lv_i2l (v := x_15.toInt64) hx hb dX6_fillWords_64 rfl ?_
  refine t_sl hx hb hK hLA hB hS mb_2 tb_2 aj_39 (i_in (by decide) (by decide)) dX6_fillWords_65 (fun H locs ρ_16 eρ_16 hB hS => ?_)
  refine lv_aload_n hx hb dX6_fillWords_66 rfl (lv_at hl 1 rfl) ?_
  refine t_gk hx hb hts hown hK hB mh0 th0 fq_6_0 hb_2 mw_2_67 dX6_fillWords_67 ?_
  refine lv_iconst (v := 5) hx hb dX6_fillWords_70 (by decide) ?_
  refine lv_aload_n hx hb dX6_fillWords_71 rfl (lv_at hl 3 rfl) ?_
  refine t_gr hx hb hts hown hK hG hB mh2 th2 fq_103_5 rfl mw_1_102 dX6_fillWords_72 (fun b_17 hb_17 mb_17 tb_17 => ?_)
  refine lv_iload hx hb dX6_fillWords_75 (lv_at hl 0 rfl) ?_
  refine lv_aload_n hx hb dX6_fillWords_77 rfl (lv_at hl 2 rfl) ?_
  refine t_gk hx hb hts hown hK hB mh1 th1 fq_3_3 hb_4 mw_1_147 dX6_fillWords_78 ?_
  refine lv_iload_n hx hb dX6_fillWords_81 rfl (lv_at hl 4 rfl) ?_
  refine t_ai hx hb hK hB mb_4 tb_4 ai_36 (fun _ => rfl) (i_in (by omega) (by omega)) dX6_fillWords_82 (fun x_18 ex_18 lx_18 ux_18 => ?_)
  have qx_18 : x_18 = x_5 := ex_18.trans ex_5.symm
  have qx_18 := qx_18.symm
  subst qx_18
  refine lv_iadd hx hb dX6_fillWords_83 ?_
  refine lv_topi (fun x_19 ex_19 => ?_)
  have vx_19 := b_add (rfl : x_1.toInt = _) (rfl : x_5.toInt = _) ex_19 (by omega) (by omega)
  refine t_ai hx hb hK hB mb_17 tb_17 ai_130 (fun _ => rfl) (i_in (by omega) (by omega)) dX6_fillWords_84 (fun x_20 ex_20 lx_20 ux_20 => ?_)
  refine lv_i2l (v := x_20.toInt64) hx hb dX6_fillWords_85 rfl ?_
  refine t_sl hx hb hK hLA hB hS mb_2 tb_2 aj_39 (i_in (by decide) (by decide)) dX6_fillWords_86 (fun H locs ρ_21 eρ_21 hB hS => ?_)
  refine lv_aload_n hx hb dX6_fillWords_87 rfl (lv_at hl 1 rfl) ?_
  refine t_gk hx hb hts hown hK hB mh0 th0 fq_6_0 hb_2 mw_2_67 dX6_fillWords_88 ?_
  refine lv_bipush (v := 6) hx hb dX6_fillWords_91 (by decide) ?_
  refine lv_aload_n hx hb dX6_fillWords_93 rfl (lv_at hl 3 rfl) ?_
  refine t_gk hx hb hts hown hK hB mh2 th2 fq_103_5 hb_17 mw_1_102 dX6_fillWords_94 ?_
  refine lv_iload hx hb dX6_fillWords_97 (lv_at hl 0 rfl) ?_
  refine lv_aload_n hx hb dX6_fillWords_99 rfl (lv_at hl 2 rfl) ?_
  refine t_gk hx hb hts hown hK hB mh1 th1 fq_3_4 hb_7 mw_1_153 dX6_fillWords_100 ?_
  refine lv_iload_n hx hb dX6_fillWords_103 rfl (lv_at hl 4 rfl) ?_
  refine t_ai hx hb hK hB mb_7 tb_7 ai_37 (fun _ => rfl) (i_in (by omega) (by omega)) dX6_fillWords_104 (fun x_22 ex_22 lx_22 ux_22 => ?_)
  have qx_22 : x_22 = x_8 := ex_22.trans ex_8.symm
  have qx_22 := qx_22.symm
  subst qx_22
  refine lv_iadd hx hb dX6_fillWords_105 ?_
  refine lv_topi (fun x_23 ex_23 => ?_)
  have vx_23 := b_add (rfl : x_1.toInt = _) (rfl : x_8.toInt = _) ex_23 (by omega) (by omega)
  refine t_ai hx hb hK hB mb_17 tb_17 ai_130 (fun _ => rfl) (i_in (by omega) (by omega)) dX6_fillWords_106 (fun x_24 ex_24 lx_24 ux_24 => ?_)
  refine lv_i2l (v := x_24.toInt64) hx hb dX6_fillWords_107 rfl ?_
  refine t_sl hx hb hK hLA hB hS mb_2 tb_2 aj_39 (i_in (by decide) (by decide)) dX6_fillWords_108 (fun H locs ρ_25 eρ_25 hB hS => ?_)
  refine lv_iconst (v := 0) hx hb dX6_fillWords_109 (by decide) ?_
  refine lv_istore (lv' := [(5, .int 0), (4, .int x_1), (0, .ref h0), (1, .ref h1), (2, .ref h2), (3, .int p3)]) hx hb dX6_fillWords_110 hl (by decide) rfl (fun ls hl => ?_)
  refine lv_iconst (v := 0) hx hb dX6_fillWords_112 (by decide) ?_
  refine lv_istore (lv' := [(6, .int 0), (5, .int 0), (4, .int x_1), (0, .ref h0), (1, .ref h1), (2, .ref h2), (3, .int p3)]) hx hb dX6_fillWords_113 hl (by decide) rfl (fun ls hl => ?_)
  refine w_loop (α := Int32 × Int32 × Sg × Lg) (fun (i_26, i_27, σ_28, ρ_29) H locs ls => 0 ≤ i_27.toInt ∧ i_27.toInt ≤ 5 ∧ σ_28 h2 6 = x_10 ∧ σ_28 h2 7 = x_15 ∧ TS D cA L T r ry ([] : List (Nat × Nat)) σ σ_28 ρ_29 H ∧ va_S (dm L s.heap.size) s.heap H locs ∧ lv_has ls 9 [(6, .int i_27), (5, .int i_26), (4, .int x_1), (0, .ref h0), (1, .ref h1), (2, .ref h2), (3, .int p3)]) (fun (i_26, i_27, σ_28, ρ_29) => (5 - i_27.toInt).toNat) ?_ ⟨0, 0, σ, ρ_25⟩ ⟨(by decide), (by decide), ex_10.symm, ex_15.symm, hB, hS, lv_sub hl [0, 1, 2, 3, 4, 5, 6] rfl⟩
  rintro ⟨i_26, i_27, σ_28, ρ_29⟩ H locs ls ⟨li_27, ui_27, k_31, k_32, hB, hS, hl⟩ ih_30
  refine lv_iload hx hb dX6_fillWords_115 (lv_at hl 0 rfl) ?_
  refine lv_aload_n hx hb dX6_fillWords_117 rfl (lv_at hl 4 rfl) ?_
  refine t_gi hx hb hts hown hK hB mh1 th1 fi_3_8 rfl mw_1_173 dX6_fillWords_118 (fun x_33 ex_33 lx_33 ux_33 => ?_)
  refine lv_icmp_ge (tgt := 145) hx hb dX6_fillWords_121 (by decide) (fun c_34 => ?_) (fun c_34 => ?_)
  · skip
    have uc_34 := j_le c_34
    refine lv_aload_n hx hb dX6_fillWords_145 rfl (lv_at hl 3 rfl) ?_
    refine t_gk hx hb hts hown hK hB mh0 th0 fq_6_0 hb_2 mw_2_67 dX6_fillWords_146 ?_
    refine lv_bipush (v := 9) hx hb dX6_fillWords_149 (by decide) ?_
    refine lv_iload hx hb dX6_fillWords_151 (lv_at hl 1 rfl) ?_
    refine lv_i2l (v := i_26.toInt64) hx hb dX6_fillWords_153 rfl ?_
    refine t_sl hx hb hK hLA hB hS mb_2 tb_2 aj_39 (i_in (by decide) (by decide)) dX6_fillWords_154 (fun H locs ρ_35 eρ_35 hB hS => ?_)
    refine lv_iconst (v := 0) hx hb dX6_fillWords_155 (by decide) ?_
    refine lv_istore (lv' := [(6, .int 0), (5, .int i_26), (4, .int x_1), (0, .ref h0), (1, .ref h1), (2, .ref h2), (3, .int p3)]) hx hb dX6_fillWords_156 hl (by decide) rfl (fun ls hl => ?_)
    refine lv_iconst (v := 0) hx hb dX6_fillWords_158 (by decide) ?_
    refine lv_istore (lv' := [(7, .int 0), (6, .int 0), (5, .int i_26), (4, .int x_1), (0, .ref h0), (1, .ref h1), (2, .ref h2), (3, .int p3)]) hx hb dX6_fillWords_159 hl (by decide) rfl (fun ls hl => ?_)
    refine lv_iconst (v := 0) hx hb dX6_fillWords_161 (by decide) ?_
    refine lv_istore (lv' := [(8, .int 0), (7, .int 0), (6, .int 0), (5, .int i_26), (4, .int x_1), (0, .ref h0), (1, .ref h1), (2, .ref h2), (3, .int p3)]) hx hb dX6_fillWords_162 hl (by decide) rfl (fun ls hl => ?_)
    refine w_loop (α := Int32 × Int32 × Int32 × Sg × Lg) (fun (i_36, i_37, i_38, σ_39, ρ_40) H locs ls => 0 ≤ i_38.toInt ∧ i_38.toInt ≤ 4 ∧ σ_39 h2 6 = x_10 ∧ σ_39 h2 7 = x_15 ∧ σ_39 h1 8 = x_33 ∧ TS D cA L T r ry ([] : List (Nat × Nat)) σ σ_39 ρ_40 H ∧ va_S (dm L s.heap.size) s.heap H locs ∧ lv_has ls 9 [(8, .int i_38), (7, .int i_37), (6, .int i_36), (5, .int i_26), (4, .int x_1), (0, .ref h0), (1, .ref h1), (2, .ref h2), (3, .int p3)]) (fun (i_36, i_37, i_38, σ_39, ρ_40) => (4 - i_38.toInt).toNat) ?_ ⟨0, 0, 0, σ_28, ρ_35⟩ ⟨(by decide), (by decide), k_31, k_32, ex_33.symm, hB, hS, lv_sub hl [0, 1, 2, 3, 4, 5, 6, 7, 8] rfl⟩
    rintro ⟨i_36, i_37, i_38, σ_39, ρ_40⟩ H locs ls ⟨li_38, ui_38, k_42, k_43, k_44, hB, hS, hl⟩ ih_41
    refine lv_iload hx hb dX6_fillWords_164 (lv_at hl 0 rfl) ?_
    refine lv_aload_n hx hb dX6_fillWords_166 rfl (lv_at hl 6 rfl) ?_
    refine t_gi hx hb hts hown hK hB mh1 th1 fi_3_10 rfl mw_1_186 dX6_fillWords_167 (fun x_45 ex_45 lx_45 ux_45 => ?_)
    refine lv_icmp_ge (tgt := 210) hx hb dX6_fillWords_170 (by decide) (fun c_46 => ?_) (fun c_46 => ?_)
    · skip
      have uc_46 := j_le c_46
      refine lv_aload_n hx hb dX6_fillWords_210 rfl (lv_at hl 5 rfl) ?_
      refine t_gk hx hb hts hown hK hB mh0 th0 fq_6_0 hb_2 mw_2_67 dX6_fillWords_211 ?_
      refine lv_bipush (v := 7) hx hb dX6_fillWords_214 (by decide) ?_
      refine lv_iload hx hb dX6_fillWords_216 (lv_at hl 2 rfl) ?_
      refine lv_i2l (v := i_36.toInt64) hx hb dX6_fillWords_218 rfl ?_
      refine t_sl hx hb hK hLA hB hS mb_2 tb_2 aj_39 (i_in (by decide) (by decide)) dX6_fillWords_219 (fun H locs ρ_47 eρ_47 hB hS => ?_)
      refine lv_aload_n hx hb dX6_fillWords_220 rfl (lv_at hl 5 rfl) ?_
      refine t_gk hx hb hts hown hK hB mh0 th0 fq_6_0 hb_2 mw_2_67 dX6_fillWords_221 ?_
      refine lv_bipush (v := 8) hx hb dX6_fillWords_224 (by decide) ?_
      refine lv_iload hx hb dX6_fillWords_226 (lv_at hl 1 rfl) ?_
      refine lv_i2l (v := i_37.toInt64) hx hb dX6_fillWords_228 rfl ?_
      refine t_sl hx hb hK hLA hB hS mb_2 tb_2 aj_39 (i_in (by decide) (by decide)) dX6_fillWords_229 (fun H locs ρ_48 eρ_48 hB hS => ?_)
      exact W.vret hx hb hr (fun t ht hW => ⟨⟨(σ_39, ρ_48), rfl, ⟨hB.2.1, hB.2.2, trivial⟩, (show TP D cA L T r σ_39 ρ_48 t.heap from by rw [ht]; exact hB.1)⟩, hS.F ht⟩) hS.2.2 dX6_fillWords_230
    · skip
      have uc_46 := j_nle c_46
      refine lv_aload_n hx hb dX6_fillWords_173 rfl (lv_at hl 7 rfl) ?_
      refine t_gr hx hb hts hown hK hG hB mh2 th2 fq_103_0 rfl mw_1_83 dX6_fillWords_174 (fun b_49 hb_49 mb_49 tb_49 => ?_)
      refine lv_iload hx hb dX6_fillWords_177 (lv_at hl 0 rfl) ?_
      refine t_ai hx hb hK hB mb_49 tb_49 ai_125 (fun _ => rfl) (i_in (by omega) (by omega)) dX6_fillWords_179 (fun x_50 ex_50 lx_50 ux_50 => ?_)
      refine lv_iload_n hx hb dX6_fillWords_180 rfl (lv_at hl 8 rfl) ?_
      refine lv_icmp_le (tgt := 190) hx hb dX6_fillWords_181 (by decide) (fun c_51 => ?_) (fun c_51 => ?_)
      · skip
        have uc_51 := j_le c_51
        refine lv_aload_n hx hb dX6_fillWords_190 rfl (lv_at hl 7 rfl) ?_
        refine t_gk hx hb hts hown hK hB mh2 th2 fq_103_0 hb_49 mw_1_83 dX6_fillWords_191 ?_
        refine lv_iload hx hb dX6_fillWords_194 (lv_at hl 0 rfl) ?_
        refine t_ai hx hb hK hB mb_49 tb_49 ai_125 (fun _ => rfl) (i_in (by omega) (by omega)) dX6_fillWords_196 (fun x_52 ex_52 lx_52 ux_52 => ?_)
        have qx_52 : x_52 = x_50 := ex_52.trans ex_50.symm
        have qx_52 := qx_52.symm
        subst qx_52
        refine lv_iload_n hx hb dX6_fillWords_197 rfl (lv_at hl 8 rfl) ?_
        refine lv_icmp_ne (tgt := 204) hx hb dX6_fillWords_198 (by decide) (fun c_53 => ?_) (fun c_53 => ?_)
        · skip
          have uc_53 := j_ne c_53
          obtain ⟨x_54, ex_54⟩ : ∃ y : Int32, y = i_38 + 1 := ⟨_, rfl⟩
          have vx_54 := b_add (rfl : i_38.toInt = _) (by decide : (1 : Int32).toInt = 1) ex_54 (by omega) (by omega)
          refine lv_iinc (v := x_54) (lv' := [(8, .int x_54), (7, .int i_37), (6, .int i_36), (5, .int i_26), (4, .int x_1), (0, .ref h0), (1, .ref h1), (2, .ref h2), (3, .int p3)]) hx hb dX6_fillWords_204 hl (k := 0) rfl (by rw [ex_54]; rfl) (by decide) rfl (fun ls hl => ?_)
          refine lv_goto (tgt := 164) hx hb dX6_fillWords_207 (by decide) ?_
          exact ih_41 ⟨i_36, i_37, x_54, σ_39, ρ_40⟩ _ _ _ ⟨(by omega), (by omega), k_42, k_43, k_44, hB, hS, lv_sub hl [0, 1, 2, 3, 4, 5, 6, 7, 8] rfl⟩ (by show (4 - x_54.toInt).toNat < (4 - i_38.toInt).toNat; omega)
        · skip
          have uc_53 := j_eq c_53
          obtain ⟨x_55, ex_55⟩ : ∃ y : Int32, y = i_37 + 1 := ⟨_, rfl⟩
          refine lv_iinc (v := x_55) (lv' := [(7, .int x_55), (8, .int i_38), (6, .int i_36), (5, .int i_26), (4, .int x_1), (0, .ref h0), (1, .ref h1), (2, .ref h2), (3, .int p3)]) hx hb dX6_fillWords_201 hl (k := 1) rfl (by rw [ex_55]; rfl) (by decide) rfl (fun ls hl => ?_)
          obtain ⟨x_56, ex_56⟩ : ∃ y : Int32, y = i_38 + 1 := ⟨_, rfl⟩
          have vx_56 := b_add (rfl : i_38.toInt = _) (by decide : (1 : Int32).toInt = 1) ex_56 (by omega) (by omega)
          refine lv_iinc (v := x_56) (lv' := [(8, .int x_56), (7, .int x_55), (6, .int i_36), (5, .int i_26), (4, .int x_1), (0, .ref h0), (1, .ref h1), (2, .ref h2), (3, .int p3)]) hx hb dX6_fillWords_204 hl (k := 1) rfl (by rw [ex_56]; rfl) (by decide) rfl (fun ls hl => ?_)
          refine lv_goto (tgt := 164) hx hb dX6_fillWords_207 (by decide) ?_
          exact ih_41 ⟨i_36, x_55, x_56, σ_39, ρ_40⟩ _ _ _ ⟨(by omega), (by omega), k_42, k_43, k_44, hB, hS, lv_sub hl [0, 1, 2, 3, 4, 5, 6, 7, 8] rfl⟩ (by show (4 - x_56.toInt).toNat < (4 - i_38.toInt).toNat; omega)
      · skip
        have uc_51 := j_nle c_51
        obtain ⟨x_57, ex_57⟩ : ∃ y : Int32, y = i_36 + 1 := ⟨_, rfl⟩
        refine lv_iinc (v := x_57) (lv' := [(6, .int x_57), (8, .int i_38), (7, .int i_37), (5, .int i_26), (4, .int x_1), (0, .ref h0), (1, .ref h1), (2, .ref h2), (3, .int p3)]) hx hb dX6_fillWords_184 hl (k := 2) rfl (by rw [ex_57]; rfl) (by decide) rfl (fun ls hl => ?_)
        refine lv_goto (tgt := 204) hx hb dX6_fillWords_187 (by decide) ?_
        obtain ⟨x_58, ex_58⟩ : ∃ y : Int32, y = i_38 + 1 := ⟨_, rfl⟩
        have vx_58 := b_add (rfl : i_38.toInt = _) (by decide : (1 : Int32).toInt = 1) ex_58 (by omega) (by omega)
        refine lv_iinc (v := x_58) (lv' := [(8, .int x_58), (6, .int x_57), (7, .int i_37), (5, .int i_26), (4, .int x_1), (0, .ref h0), (1, .ref h1), (2, .ref h2), (3, .int p3)]) hx hb dX6_fillWords_204 hl (k := 1) rfl (by rw [ex_58]; rfl) (by decide) rfl (fun ls hl => ?_)
        refine lv_goto (tgt := 164) hx hb dX6_fillWords_207 (by decide) ?_
        exact ih_41 ⟨x_57, i_37, x_58, σ_39, ρ_40⟩ _ _ _ ⟨(by omega), (by omega), k_42, k_43, k_44, hB, hS, lv_sub hl [0, 2, 1, 3, 4, 5, 6, 7, 8] rfl⟩ (by show (4 - x_58.toInt).toNat < (4 - i_38.toInt).toNat; omega)
  · skip
    have uc_34 := j_nle c_34
    refine lv_iload hx hb dX6_fillWords_124 (lv_at hl 1 rfl) ?_
    refine lv_aload_n hx hb dX6_fillWords_126 rfl (lv_at hl 5 rfl) ?_
    refine t_gk hx hb hts hown hK hB mh2 th2 fq_103_5 hb_17 mw_1_102 dX6_fillWords_127 ?_
    refine lv_iload hx hb dX6_fillWords_130 (lv_at hl 2 rfl) ?_
    refine lv_iload hx hb dX6_fillWords_132 (lv_at hl 0 rfl) ?_
    refine lv_iadd hx hb dX6_fillWords_134 ?_
    refine lv_topi (fun x_59 ex_59 => ?_)
    have vx_59 := b_add (rfl : x_1.toInt = _) (rfl : i_27.toInt = _) ex_59 (by omega) (by omega)
    refine t_ai hx hb hK hB mb_17 tb_17 ai_130 (fun _ => rfl) (i_in (by omega) (by omega)) dX6_fillWords_135 (fun x_60 ex_60 lx_60 ux_60 => ?_)
    refine lv_iadd hx hb dX6_fillWords_136 ?_
    refine lv_topi (fun x_61 ex_61 => ?_)
    refine lv_istore (lv' := [(5, .int x_61), (6, .int i_27), (4, .int x_1), (0, .ref h0), (1, .ref h1), (2, .ref h2), (3, .int p3)]) hx hb dX6_fillWords_137 hl (by decide) rfl (fun ls hl => ?_)
    obtain ⟨x_62, ex_62⟩ : ∃ y : Int32, y = i_27 + 1 := ⟨_, rfl⟩
    have vx_62 := b_add (rfl : i_27.toInt = _) (by decide : (1 : Int32).toInt = 1) ex_62 (by omega) (by omega)
    refine lv_iinc (v := x_62) (lv' := [(6, .int x_62), (5, .int x_61), (4, .int x_1), (0, .ref h0), (1, .ref h1), (2, .ref h2), (3, .int p3)]) hx hb dX6_fillWords_139 hl (k := 1) rfl (by rw [ex_62]; rfl) (by decide) rfl (fun ls hl => ?_)
    refine lv_goto (tgt := 115) hx hb dX6_fillWords_142 (by decide) ?_
    exact ih_30 ⟨x_61, x_62, σ_28, ρ_29⟩ _ _ _ ⟨(by omega), (by omega), k_31, k_32, hB, hS, lv_sub hl [0, 1, 2, 3, 4, 5, 6] rfl⟩ (by show (5 - x_62.toInt).toNat < (5 - i_27.toInt).toNat; omega)
set_option maxHeartbeats 4000000 in
set_option maxRecDepth 100000 in
theorem cy_X6_fillWords_104 (l : Launch) (D : va_G) (cA : Nat → ClassId) (L : List Nat) (T : Nat → Nat) (r : Rg) (hG : GR L T r) (hL : L.Nodup) (σ : Sg) (ρ : Lg) (hW : WT L ry T σ) (sz : Nat) (h0 : Nat) (mh0 : h0 ∈ L) (th0 : T h0 = 6) (h1 : Nat) (mh1 : h1 ∈ L) (th1 : T h1 = 3) (h2 : Nat) (mh2 : h2 ∈ L) (th2 : T h2 = 104) (p3 : Int32) (w0 : 0 ≤ p3.toInt) (w1 : p3.toInt ≤ 7) : Met l yX6_fillWords (.code yX6_fillWords cX6_fillWords 9 none :: wsA) ({ frames := 1, cells := 0, slots := 0, locals := 22 }) (PR D cA L T r σ ρ sz [.ref h0, .ref h1, .ref h2, .int p3]) (QV D cA L T r ry ([] : List (Nat × Nat)) σ sz (fun σ1 => True)) 0 0 (dm L sz) := by
  refine Met.ofW (cc := cX6_fillWords) (maxL := 9) (ret := none) (by decide) rfl ?_
  intro p e s m args below meth c s₁ B hml hv
  obtain ⟨rfl, hsz, hP, hK, hN⟩ := hv
  have hx := B.exec
  have hb := B.bytes
  have hr := B.returns
  have hts : ∀ w ∈ wsA, w.before _ s = true := fun w h => atoms_spec (ws := .code yX6_fillWords cX6_fillWords 9 none :: wsA) B.pre w (List.mem_cons_of_mem _ h)
  have hown : s.vm.findClass RX6 = some m.cls := findClass_of_methodNamed B.named
  subst hsz
  have hLA : LA (dm L s.heap.size) L := ⟨hL, fun a h => Or.inl h⟩
  have hA : ∀ q : Nat, s.heap.size ≤ q → dm L s.heap.size q := fun q h => Or.inr h
  have hS : va_S (dm L s.heap.size) s.heap s.heap [] := va_S.rf
  have hB : TS D cA L T r ry ([] : List (Nat × Nat)) σ σ ρ s.heap := ⟨hP, hW, FR.rf⟩
  have hl := lv_entry ([.ref h0, .ref h1, .ref h2, .int p3]) (n := 9) (Nat.le_of_ble_eq_true rfl)
  rw [lg_entry_eq]
  generalize (lg_sl ([.ref h0, .ref h1, .ref h2, .int p3]) ++ List.replicate (9 - (lg_sl ([.ref h0, .ref h1, .ref h2, .int p3])).length) Slot.unset).toArray = ls at hl ⊢
  have hl : lv_has ls 9 [(0, .ref h0), (1, .ref h1), (2, .ref h2), (3, .int p3)] := hl
  refine lv_iload_n hx hb dX6_fillWords_0 rfl (lv_at hl 3 rfl) ?_
  refine lv_iconst (v := 5) hx hb dX6_fillWords_1 (by decide) ?_
  refine lv_imul hx hb dX6_fillWords_2 ?_
  refine lv_topi (fun x_1 ex_1 => ?_)
  have vx_1 := b_mul (rfl : p3.toInt = _) (by decide : (5 : Int32).toInt = 5) ex_1 (by omega) (by omega)
  refine lv_istore (lv' := [(4, .int x_1), (0, .ref h0), (1, .ref h1), (2, .ref h2), (3, .int p3)]) hx hb dX6_fillWords_3 hl (by decide) rfl (fun ls hl => ?_)
  refine lv_aload_n hx hb dX6_fillWords_5 rfl (lv_at hl 1 rfl) ?_
  refine t_gr hx hb hts hown hK hG hB mh0 th0 fq_6_0 rfl mw_2_67 dX6_fillWords_6 (fun b_2 hb_2 mb_2 tb_2 => ?_)
  refine lv_iconst (v := 0) hx hb dX6_fillWords_9 (by decide) ?_
  refine lv_iload_n hx hb dX6_fillWords_10 rfl (lv_at hl 4 rfl) ?_
  refine lv_i2l (v := p3.toInt64) hx hb dX6_fillWords_11 rfl ?_
  refine t_sl hx hb hK hLA hB hS mb_2 tb_2 aj_39 (i_in (by decide) (by decide)) dX6_fillWords_12 (fun H locs ρ_3 eρ_3 hB hS => ?_)
  refine lv_aload_n hx hb dX6_fillWords_13 rfl (lv_at hl 1 rfl) ?_
  refine t_gk hx hb hts hown hK hB mh0 th0 fq_6_0 hb_2 mw_2_67 dX6_fillWords_14 ?_
  refine lv_iconst (v := 1) hx hb dX6_fillWords_17 (by decide) ?_
  refine lv_aload_n hx hb dX6_fillWords_18 rfl (lv_at hl 2 rfl) ?_
  refine t_gr hx hb hts hown hK hG hB mh1 th1 fq_3_3 rfl mw_1_147 dX6_fillWords_19 (fun b_4 hb_4 mb_4 tb_4 => ?_)
  refine lv_iload_n hx hb dX6_fillWords_22 rfl (lv_at hl 4 rfl) ?_
  refine t_ai hx hb hK hB mb_4 tb_4 ai_36 (fun _ => rfl) (i_in (by omega) (by omega)) dX6_fillWords_23 (fun x_5 ex_5 lx_5 ux_5 => ?_)
  refine lv_i2l (v := x_5.toInt64) hx hb dX6_fillWords_24 rfl ?_
  refine t_sl hx hb hK hLA hB hS mb_2 tb_2 aj_39 (i_in (by decide) (by decide)) dX6_fillWords_25 (fun H locs ρ_6 eρ_6 hB hS => ?_)
  refine lv_aload_n hx hb dX6_fillWords_26 rfl (lv_at hl 1 rfl) ?_
  refine t_gk hx hb hts hown hK hB mh0 th0 fq_6_0 hb_2 mw_2_67 dX6_fillWords_27 ?_
  refine lv_iconst (v := 2) hx hb dX6_fillWords_30 (by decide) ?_
  refine lv_aload_n hx hb dX6_fillWords_31 rfl (lv_at hl 2 rfl) ?_
  refine t_gr hx hb hts hown hK hG hB mh1 th1 fq_3_4 rfl mw_1_153 dX6_fillWords_32 (fun b_7 hb_7 mb_7 tb_7 => ?_)
  refine lv_iload_n hx hb dX6_fillWords_35 rfl (lv_at hl 4 rfl) ?_
  refine t_ai hx hb hK hB mb_7 tb_7 ai_37 (fun _ => rfl) (i_in (by omega) (by omega)) dX6_fillWords_36 (fun x_8 ex_8 lx_8 ux_8 => ?_)
  refine lv_i2l (v := x_8.toInt64) hx hb dX6_fillWords_37 rfl ?_
  refine t_sl hx hb hK hLA hB hS mb_2 tb_2 aj_39 (i_in (by decide) (by decide)) dX6_fillWords_38 (fun H locs ρ_9 eρ_9 hB hS => ?_)
  refine lv_aload_n hx hb dX6_fillWords_39 rfl (lv_at hl 1 rfl) ?_
  refine t_gk hx hb hts hown hK hB mh0 th0 fq_6_0 hb_2 mw_2_67 dX6_fillWords_40 ?_
  refine lv_iconst (v := 3) hx hb dX6_fillWords_43 (by decide) ?_
  refine lv_aload_n hx hb dX6_fillWords_44 rfl (lv_at hl 2 rfl) ?_
  refine lv_iload_n hx hb dX6_fillWords_45 rfl (lv_at hl 4 rfl) ?_
  refine lv_aload_n hx hb dX6_fillWords_46 rfl (lv_at hl 3 rfl) ?_
  refine t_gi hx hb hts hown hK hB mh2 th2 fi_104_6 rfl mw_1_105 dX6_fillWords_47 (fun x_10 ex_10 lx_10 ux_10 => ?_)
  refine t_ci (va_runV (As := [.int p3, .int x_10]) (rest := [.int 3, .ref b_2]) ⟨hx, hb, hml, hown, hts⟩ (cy_X3_askedAt l D cA L T r hG hLA.1 σ ρ_9 hB.2.1 _ h1 mh1 th1 p3 x_10 (by first | omega | decide) (by first | omega | decide)) (cV hts mv_X3_askedAt mw_4_122 rfl rfl ⟨Nat.le_of_ble_eq_true rfl, Nat.le_of_ble_eq_true rfl⟩) (pV hB.1 hK hN mh1 th1 (show shp cA 3 _ _ _ = .inr (3, Fs3 _ _ _) from rfl) rfl) rfl rfl hl.1 rfl (lv_room (Nat.le_of_ble_eq_true rfl)) dX6_fillWords_50 ⟨Nat.le_of_ble_eq_true rfl, Nat.le_of_ble_eq_true rfl⟩) hLA hA hB hS (by decide) (fun x_13 σ_11 ρ_12 H locs hB fσ_11 pσ_11 hS => ?_)
  have qσ_11 := FR.nil fσ_11
  subst qσ_11
  obtain ⟨lx_13, ux_13⟩ := pσ_11
  refine lv_i2l (v := x_13.toInt64) hx hb dX6_fillWords_53 rfl ?_
  refine t_sl hx hb hK hLA hB hS mb_2 tb_2 aj_39 (i_in (by decide) (by decide)) dX6_fillWords_54 (fun H locs ρ_14 eρ_14 hB hS => ?_)
  refine lv_aload_n hx hb dX6_fillWords_55 rfl (lv_at hl 1 rfl) ?_
  refine t_gk hx hb hts hown hK hB mh0 th0 fq_6_0 hb_2 mw_2_67 dX6_fillWords_56 ?_
  refine lv_iconst (v := 4) hx hb dX6_fillWords_59 (by decide) ?_
  refine lv_aload_n hx hb dX6_fillWords_60 rfl (lv_at hl 3 rfl) ?_
  refine t_gi hx hb hts hown hK hB mh2 th2 fi_104_7 rfl mw_1_111 dX6_fillWords_61 (fun x_15 ex_15 lx_15 ux_15 => ?_)
  refine lv_i2l (v := x_15.toInt64) hx hb dX6_fillWords_64 rfl ?_
  refine t_sl hx hb hK hLA hB hS mb_2 tb_2 aj_39 (i_in (by decide) (by decide)) dX6_fillWords_65 (fun H locs ρ_16 eρ_16 hB hS => ?_)
  refine lv_aload_n hx hb dX6_fillWords_66 rfl (lv_at hl 1 rfl) ?_
  refine t_gk hx hb hts hown hK hB mh0 th0 fq_6_0 hb_2 mw_2_67 dX6_fillWords_67 ?_
  refine lv_iconst (v := 5) hx hb dX6_fillWords_70 (by decide) ?_
  refine lv_aload_n hx hb dX6_fillWords_71 rfl (lv_at hl 3 rfl) ?_
  refine t_gr hx hb hts hown hK hG hB mh2 th2 fq_104_5 rfl mw_1_102 dX6_fillWords_72 (fun b_17 hb_17 mb_17 tb_17 => ?_)
  refine lv_iload hx hb dX6_fillWords_75 (lv_at hl 0 rfl) ?_
  refine lv_aload_n hx hb dX6_fillWords_77 rfl (lv_at hl 2 rfl) ?_
  refine t_gk hx hb hts hown hK hB mh1 th1 fq_3_3 hb_4 mw_1_147 dX6_fillWords_78 ?_
  refine lv_iload_n hx hb dX6_fillWords_81 rfl (lv_at hl 4 rfl) ?_
  refine t_ai hx hb hK hB mb_4 tb_4 ai_36 (fun _ => rfl) (i_in (by omega) (by omega)) dX6_fillWords_82 (fun x_18 ex_18 lx_18 ux_18 => ?_)
  have qx_18 : x_18 = x_5 := ex_18.trans ex_5.symm
  have qx_18 := qx_18.symm
  subst qx_18
  refine lv_iadd hx hb dX6_fillWords_83 ?_
  refine lv_topi (fun x_19 ex_19 => ?_)
  have vx_19 := b_add (rfl : x_1.toInt = _) (rfl : x_5.toInt = _) ex_19 (by omega) (by omega)
  refine t_ai hx hb hK hB mb_17 tb_17 ai_136 (fun _ => rfl) (i_in (by omega) (by omega)) dX6_fillWords_84 (fun x_20 ex_20 lx_20 ux_20 => ?_)
  refine lv_i2l (v := x_20.toInt64) hx hb dX6_fillWords_85 rfl ?_
  refine t_sl hx hb hK hLA hB hS mb_2 tb_2 aj_39 (i_in (by decide) (by decide)) dX6_fillWords_86 (fun H locs ρ_21 eρ_21 hB hS => ?_)
  refine lv_aload_n hx hb dX6_fillWords_87 rfl (lv_at hl 1 rfl) ?_
  refine t_gk hx hb hts hown hK hB mh0 th0 fq_6_0 hb_2 mw_2_67 dX6_fillWords_88 ?_
  refine lv_bipush (v := 6) hx hb dX6_fillWords_91 (by decide) ?_
  refine lv_aload_n hx hb dX6_fillWords_93 rfl (lv_at hl 3 rfl) ?_
  refine t_gk hx hb hts hown hK hB mh2 th2 fq_104_5 hb_17 mw_1_102 dX6_fillWords_94 ?_
  refine lv_iload hx hb dX6_fillWords_97 (lv_at hl 0 rfl) ?_
  refine lv_aload_n hx hb dX6_fillWords_99 rfl (lv_at hl 2 rfl) ?_
  refine t_gk hx hb hts hown hK hB mh1 th1 fq_3_4 hb_7 mw_1_153 dX6_fillWords_100 ?_
  refine lv_iload_n hx hb dX6_fillWords_103 rfl (lv_at hl 4 rfl) ?_
  refine t_ai hx hb hK hB mb_7 tb_7 ai_37 (fun _ => rfl) (i_in (by omega) (by omega)) dX6_fillWords_104 (fun x_22 ex_22 lx_22 ux_22 => ?_)
  have qx_22 : x_22 = x_8 := ex_22.trans ex_8.symm
  have qx_22 := qx_22.symm
  subst qx_22
  refine lv_iadd hx hb dX6_fillWords_105 ?_
  refine lv_topi (fun x_23 ex_23 => ?_)
  have vx_23 := b_add (rfl : x_1.toInt = _) (rfl : x_8.toInt = _) ex_23 (by omega) (by omega)
  refine t_ai hx hb hK hB mb_17 tb_17 ai_136 (fun _ => rfl) (i_in (by omega) (by omega)) dX6_fillWords_106 (fun x_24 ex_24 lx_24 ux_24 => ?_)
  refine lv_i2l (v := x_24.toInt64) hx hb dX6_fillWords_107 rfl ?_
  refine t_sl hx hb hK hLA hB hS mb_2 tb_2 aj_39 (i_in (by decide) (by decide)) dX6_fillWords_108 (fun H locs ρ_25 eρ_25 hB hS => ?_)
  refine lv_iconst (v := 0) hx hb dX6_fillWords_109 (by decide) ?_
  refine lv_istore (lv' := [(5, .int 0), (4, .int x_1), (0, .ref h0), (1, .ref h1), (2, .ref h2), (3, .int p3)]) hx hb dX6_fillWords_110 hl (by decide) rfl (fun ls hl => ?_)
  refine lv_iconst (v := 0) hx hb dX6_fillWords_112 (by decide) ?_
  refine lv_istore (lv' := [(6, .int 0), (5, .int 0), (4, .int x_1), (0, .ref h0), (1, .ref h1), (2, .ref h2), (3, .int p3)]) hx hb dX6_fillWords_113 hl (by decide) rfl (fun ls hl => ?_)
  refine w_loop (α := Int32 × Int32 × Sg × Lg) (fun (i_26, i_27, σ_28, ρ_29) H locs ls => 0 ≤ i_27.toInt ∧ i_27.toInt ≤ 5 ∧ σ_28 h2 6 = x_10 ∧ σ_28 h2 7 = x_15 ∧ TS D cA L T r ry ([] : List (Nat × Nat)) σ σ_28 ρ_29 H ∧ va_S (dm L s.heap.size) s.heap H locs ∧ lv_has ls 9 [(6, .int i_27), (5, .int i_26), (4, .int x_1), (0, .ref h0), (1, .ref h1), (2, .ref h2), (3, .int p3)]) (fun (i_26, i_27, σ_28, ρ_29) => (5 - i_27.toInt).toNat) ?_ ⟨0, 0, σ, ρ_25⟩ ⟨(by decide), (by decide), ex_10.symm, ex_15.symm, hB, hS, lv_sub hl [0, 1, 2, 3, 4, 5, 6] rfl⟩
  rintro ⟨i_26, i_27, σ_28, ρ_29⟩ H locs ls ⟨li_27, ui_27, k_31, k_32, hB, hS, hl⟩ ih_30
  refine lv_iload hx hb dX6_fillWords_115 (lv_at hl 0 rfl) ?_
  refine lv_aload_n hx hb dX6_fillWords_117 rfl (lv_at hl 4 rfl) ?_
  refine t_gi hx hb hts hown hK hB mh1 th1 fi_3_8 rfl mw_1_173 dX6_fillWords_118 (fun x_33 ex_33 lx_33 ux_33 => ?_)
  refine lv_icmp_ge (tgt := 145) hx hb dX6_fillWords_121 (by decide) (fun c_34 => ?_) (fun c_34 => ?_)
  · skip
    have uc_34 := j_le c_34
    refine lv_aload_n hx hb dX6_fillWords_145 rfl (lv_at hl 3 rfl) ?_
    refine t_gk hx hb hts hown hK hB mh0 th0 fq_6_0 hb_2 mw_2_67 dX6_fillWords_146 ?_
    refine lv_bipush (v := 9) hx hb dX6_fillWords_149 (by decide) ?_
    refine lv_iload hx hb dX6_fillWords_151 (lv_at hl 1 rfl) ?_
    refine lv_i2l (v := i_26.toInt64) hx hb dX6_fillWords_153 rfl ?_
    refine t_sl hx hb hK hLA hB hS mb_2 tb_2 aj_39 (i_in (by decide) (by decide)) dX6_fillWords_154 (fun H locs ρ_35 eρ_35 hB hS => ?_)
    refine lv_iconst (v := 0) hx hb dX6_fillWords_155 (by decide) ?_
    refine lv_istore (lv' := [(6, .int 0), (5, .int i_26), (4, .int x_1), (0, .ref h0), (1, .ref h1), (2, .ref h2), (3, .int p3)]) hx hb dX6_fillWords_156 hl (by decide) rfl (fun ls hl => ?_)
    refine lv_iconst (v := 0) hx hb dX6_fillWords_158 (by decide) ?_
    refine lv_istore (lv' := [(7, .int 0), (6, .int 0), (5, .int i_26), (4, .int x_1), (0, .ref h0), (1, .ref h1), (2, .ref h2), (3, .int p3)]) hx hb dX6_fillWords_159 hl (by decide) rfl (fun ls hl => ?_)
    refine lv_iconst (v := 0) hx hb dX6_fillWords_161 (by decide) ?_
    refine lv_istore (lv' := [(8, .int 0), (7, .int 0), (6, .int 0), (5, .int i_26), (4, .int x_1), (0, .ref h0), (1, .ref h1), (2, .ref h2), (3, .int p3)]) hx hb dX6_fillWords_162 hl (by decide) rfl (fun ls hl => ?_)
    refine w_loop (α := Int32 × Int32 × Int32 × Sg × Lg) (fun (i_36, i_37, i_38, σ_39, ρ_40) H locs ls => 0 ≤ i_38.toInt ∧ i_38.toInt ≤ 4 ∧ σ_39 h2 6 = x_10 ∧ σ_39 h2 7 = x_15 ∧ σ_39 h1 8 = x_33 ∧ TS D cA L T r ry ([] : List (Nat × Nat)) σ σ_39 ρ_40 H ∧ va_S (dm L s.heap.size) s.heap H locs ∧ lv_has ls 9 [(8, .int i_38), (7, .int i_37), (6, .int i_36), (5, .int i_26), (4, .int x_1), (0, .ref h0), (1, .ref h1), (2, .ref h2), (3, .int p3)]) (fun (i_36, i_37, i_38, σ_39, ρ_40) => (4 - i_38.toInt).toNat) ?_ ⟨0, 0, 0, σ_28, ρ_35⟩ ⟨(by decide), (by decide), k_31, k_32, ex_33.symm, hB, hS, lv_sub hl [0, 1, 2, 3, 4, 5, 6, 7, 8] rfl⟩
    rintro ⟨i_36, i_37, i_38, σ_39, ρ_40⟩ H locs ls ⟨li_38, ui_38, k_42, k_43, k_44, hB, hS, hl⟩ ih_41
    refine lv_iload hx hb dX6_fillWords_164 (lv_at hl 0 rfl) ?_
    refine lv_aload_n hx hb dX6_fillWords_166 rfl (lv_at hl 6 rfl) ?_
    refine t_gi hx hb hts hown hK hB mh1 th1 fi_3_10 rfl mw_1_186 dX6_fillWords_167 (fun x_45 ex_45 lx_45 ux_45 => ?_)
    refine lv_icmp_ge (tgt := 210) hx hb dX6_fillWords_170 (by decide) (fun c_46 => ?_) (fun c_46 => ?_)
    · skip
      have uc_46 := j_le c_46
      refine lv_aload_n hx hb dX6_fillWords_210 rfl (lv_at hl 5 rfl) ?_
      refine t_gk hx hb hts hown hK hB mh0 th0 fq_6_0 hb_2 mw_2_67 dX6_fillWords_211 ?_
      refine lv_bipush (v := 7) hx hb dX6_fillWords_214 (by decide) ?_
      refine lv_iload hx hb dX6_fillWords_216 (lv_at hl 2 rfl) ?_
      refine lv_i2l (v := i_36.toInt64) hx hb dX6_fillWords_218 rfl ?_
      refine t_sl hx hb hK hLA hB hS mb_2 tb_2 aj_39 (i_in (by decide) (by decide)) dX6_fillWords_219 (fun H locs ρ_47 eρ_47 hB hS => ?_)
      refine lv_aload_n hx hb dX6_fillWords_220 rfl (lv_at hl 5 rfl) ?_
      refine t_gk hx hb hts hown hK hB mh0 th0 fq_6_0 hb_2 mw_2_67 dX6_fillWords_221 ?_
      refine lv_bipush (v := 8) hx hb dX6_fillWords_224 (by decide) ?_
      refine lv_iload hx hb dX6_fillWords_226 (lv_at hl 1 rfl) ?_
      refine lv_i2l (v := i_37.toInt64) hx hb dX6_fillWords_228 rfl ?_
      refine t_sl hx hb hK hLA hB hS mb_2 tb_2 aj_39 (i_in (by decide) (by decide)) dX6_fillWords_229 (fun H locs ρ_48 eρ_48 hB hS => ?_)
      exact W.vret hx hb hr (fun t ht hW => ⟨⟨(σ_39, ρ_48), rfl, ⟨hB.2.1, hB.2.2, trivial⟩, (show TP D cA L T r σ_39 ρ_48 t.heap from by rw [ht]; exact hB.1)⟩, hS.F ht⟩) hS.2.2 dX6_fillWords_230
    · skip
      have uc_46 := j_nle c_46
      refine lv_aload_n hx hb dX6_fillWords_173 rfl (lv_at hl 7 rfl) ?_
      refine t_gr hx hb hts hown hK hG hB mh2 th2 fq_104_0 rfl mw_1_83 dX6_fillWords_174 (fun b_49 hb_49 mb_49 tb_49 => ?_)
      refine lv_iload hx hb dX6_fillWords_177 (lv_at hl 0 rfl) ?_
      refine t_ai hx hb hK hB mb_49 tb_49 ai_131 (fun _ => rfl) (i_in (by omega) (by omega)) dX6_fillWords_179 (fun x_50 ex_50 lx_50 ux_50 => ?_)
      refine lv_iload_n hx hb dX6_fillWords_180 rfl (lv_at hl 8 rfl) ?_
      refine lv_icmp_le (tgt := 190) hx hb dX6_fillWords_181 (by decide) (fun c_51 => ?_) (fun c_51 => ?_)
      · skip
        have uc_51 := j_le c_51
        refine lv_aload_n hx hb dX6_fillWords_190 rfl (lv_at hl 7 rfl) ?_
        refine t_gk hx hb hts hown hK hB mh2 th2 fq_104_0 hb_49 mw_1_83 dX6_fillWords_191 ?_
        refine lv_iload hx hb dX6_fillWords_194 (lv_at hl 0 rfl) ?_
        refine t_ai hx hb hK hB mb_49 tb_49 ai_131 (fun _ => rfl) (i_in (by omega) (by omega)) dX6_fillWords_196 (fun x_52 ex_52 lx_52 ux_52 => ?_)
        have qx_52 : x_52 = x_50 := ex_52.trans ex_50.symm
        have qx_52 := qx_52.symm
        subst qx_52
        refine lv_iload_n hx hb dX6_fillWords_197 rfl (lv_at hl 8 rfl) ?_
        refine lv_icmp_ne (tgt := 204) hx hb dX6_fillWords_198 (by decide) (fun c_53 => ?_) (fun c_53 => ?_)
        · skip
          have uc_53 := j_ne c_53
          obtain ⟨x_54, ex_54⟩ : ∃ y : Int32, y = i_38 + 1 := ⟨_, rfl⟩
          have vx_54 := b_add (rfl : i_38.toInt = _) (by decide : (1 : Int32).toInt = 1) ex_54 (by omega) (by omega)
          refine lv_iinc (v := x_54) (lv' := [(8, .int x_54), (7, .int i_37), (6, .int i_36), (5, .int i_26), (4, .int x_1), (0, .ref h0), (1, .ref h1), (2, .ref h2), (3, .int p3)]) hx hb dX6_fillWords_204 hl (k := 0) rfl (by rw [ex_54]; rfl) (by decide) rfl (fun ls hl => ?_)
          refine lv_goto (tgt := 164) hx hb dX6_fillWords_207 (by decide) ?_
          exact ih_41 ⟨i_36, i_37, x_54, σ_39, ρ_40⟩ _ _ _ ⟨(by omega), (by omega), k_42, k_43, k_44, hB, hS, lv_sub hl [0, 1, 2, 3, 4, 5, 6, 7, 8] rfl⟩ (by show (4 - x_54.toInt).toNat < (4 - i_38.toInt).toNat; omega)
        · skip
          have uc_53 := j_eq c_53
          obtain ⟨x_55, ex_55⟩ : ∃ y : Int32, y = i_37 + 1 := ⟨_, rfl⟩
          refine lv_iinc (v := x_55) (lv' := [(7, .int x_55), (8, .int i_38), (6, .int i_36), (5, .int i_26), (4, .int x_1), (0, .ref h0), (1, .ref h1), (2, .ref h2), (3, .int p3)]) hx hb dX6_fillWords_201 hl (k := 1) rfl (by rw [ex_55]; rfl) (by decide) rfl (fun ls hl => ?_)
          obtain ⟨x_56, ex_56⟩ : ∃ y : Int32, y = i_38 + 1 := ⟨_, rfl⟩
          have vx_56 := b_add (rfl : i_38.toInt = _) (by decide : (1 : Int32).toInt = 1) ex_56 (by omega) (by omega)
          refine lv_iinc (v := x_56) (lv' := [(8, .int x_56), (7, .int x_55), (6, .int i_36), (5, .int i_26), (4, .int x_1), (0, .ref h0), (1, .ref h1), (2, .ref h2), (3, .int p3)]) hx hb dX6_fillWords_204 hl (k := 1) rfl (by rw [ex_56]; rfl) (by decide) rfl (fun ls hl => ?_)
          refine lv_goto (tgt := 164) hx hb dX6_fillWords_207 (by decide) ?_
          exact ih_41 ⟨i_36, x_55, x_56, σ_39, ρ_40⟩ _ _ _ ⟨(by omega), (by omega), k_42, k_43, k_44, hB, hS, lv_sub hl [0, 1, 2, 3, 4, 5, 6, 7, 8] rfl⟩ (by show (4 - x_56.toInt).toNat < (4 - i_38.toInt).toNat; omega)
      · skip
        have uc_51 := j_nle c_51
        obtain ⟨x_57, ex_57⟩ : ∃ y : Int32, y = i_36 + 1 := ⟨_, rfl⟩
        refine lv_iinc (v := x_57) (lv' := [(6, .int x_57), (8, .int i_38), (7, .int i_37), (5, .int i_26), (4, .int x_1), (0, .ref h0), (1, .ref h1), (2, .ref h2), (3, .int p3)]) hx hb dX6_fillWords_184 hl (k := 2) rfl (by rw [ex_57]; rfl) (by decide) rfl (fun ls hl => ?_)
        refine lv_goto (tgt := 204) hx hb dX6_fillWords_187 (by decide) ?_
        obtain ⟨x_58, ex_58⟩ : ∃ y : Int32, y = i_38 + 1 := ⟨_, rfl⟩
        have vx_58 := b_add (rfl : i_38.toInt = _) (by decide : (1 : Int32).toInt = 1) ex_58 (by omega) (by omega)
        refine lv_iinc (v := x_58) (lv' := [(8, .int x_58), (6, .int x_57), (7, .int i_37), (5, .int i_26), (4, .int x_1), (0, .ref h0), (1, .ref h1), (2, .ref h2), (3, .int p3)]) hx hb dX6_fillWords_204 hl (k := 1) rfl (by rw [ex_58]; rfl) (by decide) rfl (fun ls hl => ?_)
        refine lv_goto (tgt := 164) hx hb dX6_fillWords_207 (by decide) ?_
        exact ih_41 ⟨x_57, i_37, x_58, σ_39, ρ_40⟩ _ _ _ ⟨(by omega), (by omega), k_42, k_43, k_44, hB, hS, lv_sub hl [0, 2, 1, 3, 4, 5, 6, 7, 8] rfl⟩ (by show (4 - x_58.toInt).toNat < (4 - i_38.toInt).toNat; omega)
  · skip
    have uc_34 := j_nle c_34
    refine lv_iload hx hb dX6_fillWords_124 (lv_at hl 1 rfl) ?_
    refine lv_aload_n hx hb dX6_fillWords_126 rfl (lv_at hl 5 rfl) ?_
    refine t_gk hx hb hts hown hK hB mh2 th2 fq_104_5 hb_17 mw_1_102 dX6_fillWords_127 ?_
    refine lv_iload hx hb dX6_fillWords_130 (lv_at hl 2 rfl) ?_
    refine lv_iload hx hb dX6_fillWords_132 (lv_at hl 0 rfl) ?_
    refine lv_iadd hx hb dX6_fillWords_134 ?_
    refine lv_topi (fun x_59 ex_59 => ?_)
    have vx_59 := b_add (rfl : x_1.toInt = _) (rfl : i_27.toInt = _) ex_59 (by omega) (by omega)
    refine t_ai hx hb hK hB mb_17 tb_17 ai_136 (fun _ => rfl) (i_in (by omega) (by omega)) dX6_fillWords_135 (fun x_60 ex_60 lx_60 ux_60 => ?_)
    refine lv_iadd hx hb dX6_fillWords_136 ?_
    refine lv_topi (fun x_61 ex_61 => ?_)
    refine lv_istore (lv' := [(5, .int x_61), (6, .int i_27), (4, .int x_1), (0, .ref h0), (1, .ref h1), (2, .ref h2), (3, .int p3)]) hx hb dX6_fillWords_137 hl (by decide) rfl (fun ls hl => ?_)
    obtain ⟨x_62, ex_62⟩ : ∃ y : Int32, y = i_27 + 1 := ⟨_, rfl⟩
    have vx_62 := b_add (rfl : i_27.toInt = _) (by decide : (1 : Int32).toInt = 1) ex_62 (by omega) (by omega)
    refine lv_iinc (v := x_62) (lv' := [(6, .int x_62), (5, .int x_61), (4, .int x_1), (0, .ref h0), (1, .ref h1), (2, .ref h2), (3, .int p3)]) hx hb dX6_fillWords_139 hl (k := 1) rfl (by rw [ex_62]; rfl) (by decide) rfl (fun ls hl => ?_)
    refine lv_goto (tgt := 115) hx hb dX6_fillWords_142 (by decide) ?_
    exact ih_30 ⟨x_61, x_62, σ_28, ρ_29⟩ _ _ _ ⟨(by omega), (by omega), k_31, k_32, hB, hS, lv_sub hl [0, 1, 2, 3, 4, 5, 6] rfl⟩ (by show (5 - x_62.toInt).toNat < (5 - i_27.toInt).toNat; omega)
theorem dX7_joined_0 : decode cX7_joined 0 = .ok (.iload_n 0, 1) := by decide +kernel
theorem dX7_joined_1 : decode cX7_joined 1 = .ok (.lookupswitch 203 #[(37, 125), (42, 107), (43, 99), (45, 103), (47, 111), (60, 139), (61, 151), (62, 163), (128, 175), (129, 187), (140, 199)], 99) := by decide +kernel
theorem dX7_joined_126 : decode cX7_joined 126 = .ok (.lload_n 3, 1) := by decide +kernel
theorem dX7_joined_127 : decode cX7_joined 127 = .ok (.lconst 0, 1) := by decide +kernel
theorem dX7_joined_128 : decode cX7_joined 128 = .ok (.lcmp, 1) := by decide +kernel
theorem dX7_joined_129 : decode cX7_joined 129 = .ok (.ifCond .ne 7, 3) := by decide +kernel
theorem dX7_joined_136 : decode cX7_joined 136 = .ok (.lload_n 1, 1) := by decide +kernel
theorem dX7_joined_137 : decode cX7_joined 137 = .ok (.lload_n 3, 1) := by decide +kernel
theorem dX7_joined_138 : decode cX7_joined 138 = .ok (.lrem, 1) := by decide +kernel
theorem dX7_joined_139 : decode cX7_joined 139 = .ok (.lreturn, 1) := by decide +kernel
theorem dX7_joined_132 : decode cX7_joined 132 = .ok (.lconst 0, 1) := by decide +kernel
theorem dX7_joined_133 : decode cX7_joined 133 = .ok (.goto 6, 3) := by decide +kernel
theorem dX7_joined_108 : decode cX7_joined 108 = .ok (.lload_n 1, 1) := by decide +kernel
theorem dX7_joined_109 : decode cX7_joined 109 = .ok (.lload_n 3, 1) := by decide +kernel
theorem dX7_joined_110 : decode cX7_joined 110 = .ok (.lmul, 1) := by decide +kernel
theorem dX7_joined_111 : decode cX7_joined 111 = .ok (.lreturn, 1) := by decide +kernel
theorem dX7_joined_100 : decode cX7_joined 100 = .ok (.lload_n 1, 1) := by decide +kernel
theorem dX7_joined_101 : decode cX7_joined 101 = .ok (.lload_n 3, 1) := by decide +kernel
theorem dX7_joined_102 : decode cX7_joined 102 = .ok (.ladd, 1) := by decide +kernel
theorem dX7_joined_103 : decode cX7_joined 103 = .ok (.lreturn, 1) := by decide +kernel
theorem dX7_joined_104 : decode cX7_joined 104 = .ok (.lload_n 1, 1) := by decide +kernel
theorem dX7_joined_105 : decode cX7_joined 105 = .ok (.lload_n 3, 1) := by decide +kernel
theorem dX7_joined_106 : decode cX7_joined 106 = .ok (.lsub, 1) := by decide +kernel
theorem dX7_joined_107 : decode cX7_joined 107 = .ok (.lreturn, 1) := by decide +kernel
theorem dX7_joined_112 : decode cX7_joined 112 = .ok (.lload_n 3, 1) := by decide +kernel
theorem dX7_joined_113 : decode cX7_joined 113 = .ok (.lconst 0, 1) := by decide +kernel
theorem dX7_joined_114 : decode cX7_joined 114 = .ok (.lcmp, 1) := by decide +kernel
theorem dX7_joined_115 : decode cX7_joined 115 = .ok (.ifCond .ne 7, 3) := by decide +kernel
theorem dX7_joined_122 : decode cX7_joined 122 = .ok (.lload_n 1, 1) := by decide +kernel
theorem dX7_joined_123 : decode cX7_joined 123 = .ok (.lload_n 3, 1) := by decide +kernel
theorem dX7_joined_124 : decode cX7_joined 124 = .ok (.ldiv, 1) := by decide +kernel
theorem dX7_joined_125 : decode cX7_joined 125 = .ok (.lreturn, 1) := by decide +kernel
theorem dX7_joined_118 : decode cX7_joined 118 = .ok (.lconst 0, 1) := by decide +kernel
theorem dX7_joined_119 : decode cX7_joined 119 = .ok (.goto 6, 3) := by decide +kernel
theorem dX7_joined_140 : decode cX7_joined 140 = .ok (.lload_n 1, 1) := by decide +kernel
theorem dX7_joined_141 : decode cX7_joined 141 = .ok (.lload_n 3, 1) := by decide +kernel
theorem dX7_joined_142 : decode cX7_joined 142 = .ok (.lcmp, 1) := by decide +kernel
theorem dX7_joined_143 : decode cX7_joined 143 = .ok (.ifCond .ge 7, 3) := by decide +kernel
theorem dX7_joined_150 : decode cX7_joined 150 = .ok (.lconst 0, 1) := by decide +kernel
theorem dX7_joined_151 : decode cX7_joined 151 = .ok (.lreturn, 1) := by decide +kernel
theorem dX7_joined_146 : decode cX7_joined 146 = .ok (.lconst 1, 1) := by decide +kernel
theorem dX7_joined_147 : decode cX7_joined 147 = .ok (.goto 4, 3) := by decide +kernel
theorem dX7_joined_152 : decode cX7_joined 152 = .ok (.lload_n 1, 1) := by decide +kernel
theorem dX7_joined_153 : decode cX7_joined 153 = .ok (.lload_n 3, 1) := by decide +kernel
theorem dX7_joined_154 : decode cX7_joined 154 = .ok (.lcmp, 1) := by decide +kernel
theorem dX7_joined_155 : decode cX7_joined 155 = .ok (.ifCond .ne 7, 3) := by decide +kernel
theorem dX7_joined_162 : decode cX7_joined 162 = .ok (.lconst 0, 1) := by decide +kernel
theorem dX7_joined_163 : decode cX7_joined 163 = .ok (.lreturn, 1) := by decide +kernel
theorem dX7_joined_158 : decode cX7_joined 158 = .ok (.lconst 1, 1) := by decide +kernel
theorem dX7_joined_159 : decode cX7_joined 159 = .ok (.goto 4, 3) := by decide +kernel
theorem dX7_joined_164 : decode cX7_joined 164 = .ok (.lload_n 1, 1) := by decide +kernel
theorem dX7_joined_165 : decode cX7_joined 165 = .ok (.lload_n 3, 1) := by decide +kernel
theorem dX7_joined_166 : decode cX7_joined 166 = .ok (.lcmp, 1) := by decide +kernel
theorem dX7_joined_167 : decode cX7_joined 167 = .ok (.ifCond .le 7, 3) := by decide +kernel
theorem dX7_joined_174 : decode cX7_joined 174 = .ok (.lconst 0, 1) := by decide +kernel
theorem dX7_joined_175 : decode cX7_joined 175 = .ok (.lreturn, 1) := by decide +kernel
theorem dX7_joined_170 : decode cX7_joined 170 = .ok (.lconst 1, 1) := by decide +kernel
theorem dX7_joined_171 : decode cX7_joined 171 = .ok (.goto 4, 3) := by decide +kernel
theorem dX7_joined_176 : decode cX7_joined 176 = .ok (.lload_n 1, 1) := by decide +kernel
theorem dX7_joined_177 : decode cX7_joined 177 = .ok (.lload_n 3, 1) := by decide +kernel
theorem dX7_joined_178 : decode cX7_joined 178 = .ok (.lcmp, 1) := by decide +kernel
theorem dX7_joined_179 : decode cX7_joined 179 = .ok (.ifCond .gt 7, 3) := by decide +kernel
theorem dX7_joined_186 : decode cX7_joined 186 = .ok (.lconst 0, 1) := by decide +kernel
theorem dX7_joined_187 : decode cX7_joined 187 = .ok (.lreturn, 1) := by decide +kernel
theorem dX7_joined_182 : decode cX7_joined 182 = .ok (.lconst 1, 1) := by decide +kernel
theorem dX7_joined_183 : decode cX7_joined 183 = .ok (.goto 4, 3) := by decide +kernel
theorem dX7_joined_188 : decode cX7_joined 188 = .ok (.lload_n 1, 1) := by decide +kernel
theorem dX7_joined_189 : decode cX7_joined 189 = .ok (.lload_n 3, 1) := by decide +kernel
theorem dX7_joined_190 : decode cX7_joined 190 = .ok (.lcmp, 1) := by decide +kernel
theorem dX7_joined_191 : decode cX7_joined 191 = .ok (.ifCond .lt 7, 3) := by decide +kernel
theorem dX7_joined_198 : decode cX7_joined 198 = .ok (.lconst 0, 1) := by decide +kernel
theorem dX7_joined_199 : decode cX7_joined 199 = .ok (.lreturn, 1) := by decide +kernel
theorem dX7_joined_194 : decode cX7_joined 194 = .ok (.lconst 1, 1) := by decide +kernel
theorem dX7_joined_195 : decode cX7_joined 195 = .ok (.goto 4, 3) := by decide +kernel
theorem dX7_joined_200 : decode cX7_joined 200 = .ok (.lload_n 1, 1) := by decide +kernel
theorem dX7_joined_201 : decode cX7_joined 201 = .ok (.lload_n 3, 1) := by decide +kernel
theorem dX7_joined_202 : decode cX7_joined 202 = .ok (.land, 1) := by decide +kernel
theorem dX7_joined_203 : decode cX7_joined 203 = .ok (.lreturn, 1) := by decide +kernel
theorem dX7_joined_204 : decode cX7_joined 204 = .ok (.lload_n 1, 1) := by decide +kernel
theorem dX7_joined_205 : decode cX7_joined 205 = .ok (.lload_n 3, 1) := by decide +kernel
theorem dX7_joined_206 : decode cX7_joined 206 = .ok (.lor, 1) := by decide +kernel
theorem dX7_joined_207 : decode cX7_joined 207 = .ok (.lreturn, 1) := by decide +kernel
set_option maxHeartbeats 4000000 in
set_option maxRecDepth 100000 in
theorem cy_X7_joined (l : Launch) (D : va_G) (cA : Nat → ClassId) (L : List Nat) (T : Nat → Nat) (r : Rg) (hG : GR L T r) (hL : L.Nodup) (σ : Sg) (ρ : Lg) (hW : WT L ry T σ) (sz : Nat) (p1 : Int32) (p2 : Int64) (p3 : Int64) : Met l yX7_joined (.code yX7_joined cX7_joined 5 (some .long) :: wsA) ({ frames := 0, cells := 0, slots := 0, locals := 0 }) (PR D cA L T r σ ρ sz [.int p1, .long p2, .long p3]) (QL D cA L T r ry ([] : List (Nat × Nat)) σ sz (fun x σ1 => True)) 0 0 (dm L sz) := by
  refine Met.ofW (cc := cX7_joined) (maxL := 5) (ret := (some .long)) (by decide) rfl ?_
  intro p e s m args below meth c s₁ B hml hv
  obtain ⟨rfl, hsz, hP, hK, hN⟩ := hv
  have hx := B.exec
  have hb := B.bytes
  have hr := B.returns
  have hts : ∀ w ∈ wsA, w.before _ s = true := fun w h => atoms_spec (ws := .code yX7_joined cX7_joined 5 (some .long) :: wsA) B.pre w (List.mem_cons_of_mem _ h)
  have hown : s.vm.findClass RX7 = some m.cls := findClass_of_methodNamed B.named
  subst hsz
  have hLA : LA (dm L s.heap.size) L := ⟨hL, fun a h => Or.inl h⟩
  have hA : ∀ q : Nat, s.heap.size ≤ q → dm L s.heap.size q := fun q h => Or.inr h
  have hS : va_S (dm L s.heap.size) s.heap s.heap [] := va_S.rf
  have hB : TS D cA L T r ry ([] : List (Nat × Nat)) σ σ ρ s.heap := ⟨hP, hW, FR.rf⟩
  have hl := lv_entry ([.int p1, .long p2, .long p3]) (n := 5) (Nat.le_of_ble_eq_true rfl)
  rw [lg_entry_eq]
  generalize (lg_sl ([.int p1, .long p2, .long p3]) ++ List.replicate (5 - (lg_sl ([.int p1, .long p2, .long p3])).length) Slot.unset).toArray = ls at hl ⊢
  have hl : lv_has ls 5 [(0, .int p1), (1, .long p2), (3, .long p3)] := hl
  refine lv_iload_n hx hb dX7_joined_0 rfl (lv_at hl 0 rfl) ?_
  by_cases c_1 : p1.toInt = 37
  · skip
    have c_1x : p1 = 37 := i_is (by decide) c_1
    subst c_1x
    refine lv_lookup (off := 125) (tgt := 126) hx hb dX7_joined_1 (by decide) (by decide) (by decide) ?_
    refine lv_lload_n hx hb dX7_joined_126 rfl (lv_at hl 2 rfl) ?_
    refine lv_lconst (v := 0) hx hb dX7_joined_127 (by decide) ?_
    refine W.lcmp hx hb dX7_joined_128 ?_
    refine lv_if_ne (tgt := 136) hx hb dX7_joined_129 (by decide) (fun c_2 => ?_) (fun c_2 => ?_)
    · skip
      have uc_2 := mt (lg_cmp_eq _ _).mpr c_2
      refine lv_lload_n hx hb dX7_joined_136 rfl (lv_at hl 1 rfl) ?_
      refine lv_lload_n hx hb dX7_joined_137 rfl (lv_at hl 2 rfl) ?_
      refine lv_lrem hx hb dX7_joined_138 uc_2 ?_
      refine lv_topl (fun y_3 ey_3 => ?_)
      exact W.lret (v := y_3) hx hb hr (fun t ht hW => ⟨⟨y_3, (σ, ρ), rfl, ⟨hB.2.1, hB.2.2, trivial⟩, (show TP D cA L T r σ ρ t.heap from by rw [ht]; exact hB.1)⟩, hS.F ht⟩) hS.2.2 dX7_joined_139
    · skip
      have uc_2 := (lg_cmp_eq _ _).mp c_2
      refine lv_lconst (v := 0) hx hb dX7_joined_132 (by decide) ?_
      refine lv_goto (tgt := 139) hx hb dX7_joined_133 (by decide) ?_
      exact W.lret (v := 0) hx hb hr (fun t ht hW => ⟨⟨0, (σ, ρ), rfl, ⟨hB.2.1, hB.2.2, trivial⟩, (show TP D cA L T r σ ρ t.heap from by rw [ht]; exact hB.1)⟩, hS.F ht⟩) hS.2.2 dX7_joined_139
  by_cases c_4 : p1.toInt = 42
  · skip
    have c_4x : p1 = 42 := i_is (by decide) c_4
    subst c_4x
    refine lv_lookup (off := 107) (tgt := 108) hx hb dX7_joined_1 (by decide) (by decide) (by decide) ?_
    refine lv_lload_n hx hb dX7_joined_108 rfl (lv_at hl 1 rfl) ?_
    refine lv_lload_n hx hb dX7_joined_109 rfl (lv_at hl 2 rfl) ?_
    refine lv_lmul hx hb dX7_joined_110 ?_
    refine lv_topl (fun y_5 ey_5 => ?_)
    exact W.lret (v := y_5) hx hb hr (fun t ht hW => ⟨⟨y_5, (σ, ρ), rfl, ⟨hB.2.1, hB.2.2, trivial⟩, (show TP D cA L T r σ ρ t.heap from by rw [ht]; exact hB.1)⟩, hS.F ht⟩) hS.2.2 dX7_joined_111
  by_cases c_6 : p1.toInt = 43
  · skip
    have c_6x : p1 = 43 := i_is (by decide) c_6
    subst c_6x
    refine lv_lookup (off := 99) (tgt := 100) hx hb dX7_joined_1 (by decide) (by decide) (by decide) ?_
    refine lv_lload_n hx hb dX7_joined_100 rfl (lv_at hl 1 rfl) ?_
    refine lv_lload_n hx hb dX7_joined_101 rfl (lv_at hl 2 rfl) ?_
    refine lv_ladd hx hb dX7_joined_102 ?_
    refine lv_topl (fun y_7 ey_7 => ?_)
    exact W.lret (v := y_7) hx hb hr (fun t ht hW => ⟨⟨y_7, (σ, ρ), rfl, ⟨hB.2.1, hB.2.2, trivial⟩, (show TP D cA L T r σ ρ t.heap from by rw [ht]; exact hB.1)⟩, hS.F ht⟩) hS.2.2 dX7_joined_103
  by_cases c_8 : p1.toInt = 45
  · skip
    have c_8x : p1 = 45 := i_is (by decide) c_8
    subst c_8x
    refine lv_lookup (off := 103) (tgt := 104) hx hb dX7_joined_1 (by decide) (by decide) (by decide) ?_
    refine lv_lload_n hx hb dX7_joined_104 rfl (lv_at hl 1 rfl) ?_
    refine lv_lload_n hx hb dX7_joined_105 rfl (lv_at hl 2 rfl) ?_
    refine lv_lsub hx hb dX7_joined_106 ?_
    refine lv_topl (fun y_9 ey_9 => ?_)
    exact W.lret (v := y_9) hx hb hr (fun t ht hW => ⟨⟨y_9, (σ, ρ), rfl, ⟨hB.2.1, hB.2.2, trivial⟩, (show TP D cA L T r σ ρ t.heap from by rw [ht]; exact hB.1)⟩, hS.F ht⟩) hS.2.2 dX7_joined_107
  by_cases c_10 : p1.toInt = 47
  · skip
    have c_10x : p1 = 47 := i_is (by decide) c_10
    subst c_10x
    refine lv_lookup (off := 111) (tgt := 112) hx hb dX7_joined_1 (by decide) (by decide) (by decide) ?_
    refine lv_lload_n hx hb dX7_joined_112 rfl (lv_at hl 2 rfl) ?_
    refine lv_lconst (v := 0) hx hb dX7_joined_113 (by decide) ?_
    refine W.lcmp hx hb dX7_joined_114 ?_
    refine lv_if_ne (tgt := 122) hx hb dX7_joined_115 (by decide) (fun c_11 => ?_) (fun c_11 => ?_)
    · skip
      have uc_11 := mt (lg_cmp_eq _ _).mpr c_11
      refine lv_lload_n hx hb dX7_joined_122 rfl (lv_at hl 1 rfl) ?_
      refine lv_lload_n hx hb dX7_joined_123 rfl (lv_at hl 2 rfl) ?_
      refine lv_ldiv hx hb dX7_joined_124 uc_11 ?_
      refine lv_topl (fun y_12 ey_12 => ?_)
      exact W.lret (v := y_12) hx hb hr (fun t ht hW => ⟨⟨y_12, (σ, ρ), rfl, ⟨hB.2.1, hB.2.2, trivial⟩, (show TP D cA L T r σ ρ t.heap from by rw [ht]; exact hB.1)⟩, hS.F ht⟩) hS.2.2 dX7_joined_125
    · skip
      have uc_11 := (lg_cmp_eq _ _).mp c_11
      refine lv_lconst (v := 0) hx hb dX7_joined_118 (by decide) ?_
      refine lv_goto (tgt := 125) hx hb dX7_joined_119 (by decide) ?_
      exact W.lret (v := 0) hx hb hr (fun t ht hW => ⟨⟨0, (σ, ρ), rfl, ⟨hB.2.1, hB.2.2, trivial⟩, (show TP D cA L T r σ ρ t.heap from by rw [ht]; exact hB.1)⟩, hS.F ht⟩) hS.2.2 dX7_joined_125
  by_cases c_13 : p1.toInt = 60
  · skip
    have c_13x : p1 = 60 := i_is (by decide) c_13
    subst c_13x
    refine lv_lookup (off := 139) (tgt := 140) hx hb dX7_joined_1 (by decide) (by decide) (by decide) ?_
    refine lv_lload_n hx hb dX7_joined_140 rfl (lv_at hl 1 rfl) ?_
    refine lv_lload_n hx hb dX7_joined_141 rfl (lv_at hl 2 rfl) ?_
    refine W.lcmp hx hb dX7_joined_142 ?_
    refine lv_if_ge (tgt := 150) hx hb dX7_joined_143 (by decide) (fun c_14 => ?_) (fun c_14 => ?_)
    · skip
      have uc_14 := l_le (rfl : p3.toInt = _) (rfl : p2.toInt = _) ((lg_cmp_ge _ _).mp c_14)
      refine lv_lconst (v := 0) hx hb dX7_joined_150 (by decide) ?_
      exact W.lret (v := 0) hx hb hr (fun t ht hW => ⟨⟨0, (σ, ρ), rfl, ⟨hB.2.1, hB.2.2, trivial⟩, (show TP D cA L T r σ ρ t.heap from by rw [ht]; exact hB.1)⟩, hS.F ht⟩) hS.2.2 dX7_joined_151
    · skip
      have uc_14 := l_nle (rfl : p3.toInt = _) (rfl : p2.toInt = _) (mt (lg_cmp_ge _ _).mpr c_14)
      refine lv_lconst (v := 1) hx hb dX7_joined_146 (by decide) ?_
      refine lv_goto (tgt := 151) hx hb dX7_joined_147 (by decide) ?_
      exact W.lret (v := 1) hx hb hr (fun t ht hW => ⟨⟨1, (σ, ρ), rfl, ⟨hB.2.1, hB.2.2, trivial⟩, (show TP D cA L T r σ ρ t.heap from by rw [ht]; exact hB.1)⟩, hS.F ht⟩) hS.2.2 dX7_joined_151
  by_cases c_15 : p1.toInt = 61
  · skip
    have c_15x : p1 = 61 := i_is (by decide) c_15
    subst c_15x
    refine lv_lookup (off := 151) (tgt := 152) hx hb dX7_joined_1 (by decide) (by decide) (by decide) ?_
    refine lv_lload_n hx hb dX7_joined_152 rfl (lv_at hl 1 rfl) ?_
    refine lv_lload_n hx hb dX7_joined_153 rfl (lv_at hl 2 rfl) ?_
    refine W.lcmp hx hb dX7_joined_154 ?_
    refine lv_if_ne (tgt := 162) hx hb dX7_joined_155 (by decide) (fun c_16 => ?_) (fun c_16 => ?_)
    · skip
      have uc_16 := mt (lg_cmp_eq _ _).mpr c_16
      refine lv_lconst (v := 0) hx hb dX7_joined_162 (by decide) ?_
      exact W.lret (v := 0) hx hb hr (fun t ht hW => ⟨⟨0, (σ, ρ), rfl, ⟨hB.2.1, hB.2.2, trivial⟩, (show TP D cA L T r σ ρ t.heap from by rw [ht]; exact hB.1)⟩, hS.F ht⟩) hS.2.2 dX7_joined_163
    · skip
      have uc_16 := (lg_cmp_eq _ _).mp c_16
      refine lv_lconst (v := 1) hx hb dX7_joined_158 (by decide) ?_
      refine lv_goto (tgt := 163) hx hb dX7_joined_159 (by decide) ?_
      exact W.lret (v := 1) hx hb hr (fun t ht hW => ⟨⟨1, (σ, ρ), rfl, ⟨hB.2.1, hB.2.2, trivial⟩, (show TP D cA L T r σ ρ t.heap from by rw [ht]; exact hB.1)⟩, hS.F ht⟩) hS.2.2 dX7_joined_163
  by_cases c_17 : p1.toInt = 62
  · skip
    have c_17x : p1 = 62 := i_is (by decide) c_17
    subst c_17x
    refine lv_lookup (off := 163) (tgt := 164) hx hb dX7_joined_1 (by decide) (by decide) (by decide) ?_
    refine lv_lload_n hx hb dX7_joined_164 rfl (lv_at hl 1 rfl) ?_
    refine lv_lload_n hx hb dX7_joined_165 rfl (lv_at hl 2 rfl) ?_
    refine W.lcmp hx hb dX7_joined_166 ?_
    refine lv_if_le (tgt := 174) hx hb dX7_joined_167 (by decide) (fun c_18 => ?_) (fun c_18 => ?_)
    · skip
      have uc_18 := l_le (rfl : p2.toInt = _) (rfl : p3.toInt = _) ((lg_cmp_le _ _).mp c_18)
      refine lv_lconst (v := 0) hx hb dX7_joined_174 (by decide) ?_
      exact W.lret (v := 0) hx hb hr (fun t ht hW => ⟨⟨0, (σ, ρ), rfl, ⟨hB.2.1, hB.2.2, trivial⟩, (show TP D cA L T r σ ρ t.heap from by rw [ht]; exact hB.1)⟩, hS.F ht⟩) hS.2.2 dX7_joined_175
    · skip
      have uc_18 := l_nle (rfl : p2.toInt = _) (rfl : p3.toInt = _) (mt (lg_cmp_le _ _).mpr c_18)
      refine lv_lconst (v := 1) hx hb dX7_joined_170 (by decide) ?_
      refine lv_goto (tgt := 175) hx hb dX7_joined_171 (by decide) ?_
      exact W.lret (v := 1) hx hb hr (fun t ht hW => ⟨⟨1, (σ, ρ), rfl, ⟨hB.2.1, hB.2.2, trivial⟩, (show TP D cA L T r σ ρ t.heap from by rw [ht]; exact hB.1)⟩, hS.F ht⟩) hS.2.2 dX7_joined_175
  by_cases c_19 : p1.toInt = 128
  · skip
    have c_19x : p1 = 128 := i_is (by decide) c_19
    subst c_19x
    refine lv_lookup (off := 175) (tgt := 176) hx hb dX7_joined_1 (by decide) (by decide) (by decide) ?_
    refine lv_lload_n hx hb dX7_joined_176 rfl (lv_at hl 1 rfl) ?_
    refine lv_lload_n hx hb dX7_joined_177 rfl (lv_at hl 2 rfl) ?_
    refine W.lcmp hx hb dX7_joined_178 ?_
    refine lv_if_gt (tgt := 186) hx hb dX7_joined_179 (by decide) (fun c_20 => ?_) (fun c_20 => ?_)
    · skip
      have uc_20 := l_lt (rfl : p3.toInt = _) (rfl : p2.toInt = _) ((lg_cmp_gt _ _).mp c_20)
      refine lv_lconst (v := 0) hx hb dX7_joined_186 (by decide) ?_
      exact W.lret (v := 0) hx hb hr (fun t ht hW => ⟨⟨0, (σ, ρ), rfl, ⟨hB.2.1, hB.2.2, trivial⟩, (show TP D cA L T r σ ρ t.heap from by rw [ht]; exact hB.1)⟩, hS.F ht⟩) hS.2.2 dX7_joined_187
    · skip
      have uc_20 := l_nlt (rfl : p3.toInt = _) (rfl : p2.toInt = _) (mt (lg_cmp_gt _ _).mpr c_20)
      refine lv_lconst (v := 1) hx hb dX7_joined_182 (by decide) ?_
      refine lv_goto (tgt := 187) hx hb dX7_joined_183 (by decide) ?_
      exact W.lret (v := 1) hx hb hr (fun t ht hW => ⟨⟨1, (σ, ρ), rfl, ⟨hB.2.1, hB.2.2, trivial⟩, (show TP D cA L T r σ ρ t.heap from by rw [ht]; exact hB.1)⟩, hS.F ht⟩) hS.2.2 dX7_joined_187
  by_cases c_21 : p1.toInt = 129
  · skip
    have c_21x : p1 = 129 := i_is (by decide) c_21
    subst c_21x
    refine lv_lookup (off := 187) (tgt := 188) hx hb dX7_joined_1 (by decide) (by decide) (by decide) ?_
    refine lv_lload_n hx hb dX7_joined_188 rfl (lv_at hl 1 rfl) ?_
    refine lv_lload_n hx hb dX7_joined_189 rfl (lv_at hl 2 rfl) ?_
    refine W.lcmp hx hb dX7_joined_190 ?_
    refine lv_if_lt (tgt := 198) hx hb dX7_joined_191 (by decide) (fun c_22 => ?_) (fun c_22 => ?_)
    · skip
      have uc_22 := l_lt (rfl : p2.toInt = _) (rfl : p3.toInt = _) ((lg_cmp_lt _ _).mp c_22)
      refine lv_lconst (v := 0) hx hb dX7_joined_198 (by decide) ?_
      exact W.lret (v := 0) hx hb hr (fun t ht hW => ⟨⟨0, (σ, ρ), rfl, ⟨hB.2.1, hB.2.2, trivial⟩, (show TP D cA L T r σ ρ t.heap from by rw [ht]; exact hB.1)⟩, hS.F ht⟩) hS.2.2 dX7_joined_199
    · skip
      have uc_22 := l_nlt (rfl : p2.toInt = _) (rfl : p3.toInt = _) (mt (lg_cmp_lt _ _).mpr c_22)
      refine lv_lconst (v := 1) hx hb dX7_joined_194 (by decide) ?_
      refine lv_goto (tgt := 199) hx hb dX7_joined_195 (by decide) ?_
      exact W.lret (v := 1) hx hb hr (fun t ht hW => ⟨⟨1, (σ, ρ), rfl, ⟨hB.2.1, hB.2.2, trivial⟩, (show TP D cA L T r σ ρ t.heap from by rw [ht]; exact hB.1)⟩, hS.F ht⟩) hS.2.2 dX7_joined_199
  by_cases c_23 : p1.toInt = 140
  · skip
    have c_23x : p1 = 140 := i_is (by decide) c_23
    subst c_23x
    refine lv_lookup (off := 199) (tgt := 200) hx hb dX7_joined_1 (by decide) (by decide) (by decide) ?_
    refine lv_lload_n hx hb dX7_joined_200 rfl (lv_at hl 1 rfl) ?_
    refine lv_lload_n hx hb dX7_joined_201 rfl (lv_at hl 2 rfl) ?_
    refine lv_land hx hb dX7_joined_202 ?_
    refine lv_topl (fun y_24 ey_24 => ?_)
    exact W.lret (v := y_24) hx hb hr (fun t ht hW => ⟨⟨y_24, (σ, ρ), rfl, ⟨hB.2.1, hB.2.2, trivial⟩, (show TP D cA L T r σ ρ t.heap from by rw [ht]; exact hB.1)⟩, hS.F ht⟩) hS.2.2 dX7_joined_203
  refine lv_lookup (off := 203) (tgt := 204) hx hb dX7_joined_1 (by decide) (by simp [Op.lookupswitch.offset, Ne.symm c_1, Ne.symm c_4, Ne.symm c_6, Ne.symm c_8, Ne.symm c_10, Ne.symm c_13, Ne.symm c_15, Ne.symm c_17, Ne.symm c_19, Ne.symm c_21, Ne.symm c_23]) (by decide) ?_
  refine lv_lload_n hx hb dX7_joined_204 rfl (lv_at hl 1 rfl) ?_
  refine lv_lload_n hx hb dX7_joined_205 rfl (lv_at hl 2 rfl) ?_
  refine lv_lor hx hb dX7_joined_206 ?_
  refine lv_topl (fun y_25 ey_25 => ?_)
  exact W.lret (v := y_25) hx hb hr (fun t ht hW => ⟨⟨y_25, (σ, ρ), rfl, ⟨hB.2.1, hB.2.2, trivial⟩, (show TP D cA L T r σ ρ t.heap from by rw [ht]; exact hB.1)⟩, hS.F ht⟩) hS.2.2 dX7_joined_207
theorem mw_2_182 : (.fieldLink RX7 11 "HillBends$Rule" "code" "[I" : Cond) ∈ wsA := wsA_t (List.mem_append_right _ (List.mem_append_left _ (List.mem_of_getElem? (l := tables_1_2) (i := 182) rfl))) rfl
theorem mw_4_132 : (.static yX7_joined : Cond) ∈ wsA := wsA_t (List.mem_append_right _ (List.mem_append_right _ (List.mem_append_right _ (List.mem_append_left _ (List.mem_of_getElem? (l := tables_1_4) (i := 132) rfl))))) rfl
theorem mw_1_12 : (.initialized RX7 : Cond) ∈ wsA := wsA_t (List.mem_append_left _ (List.mem_of_getElem? (l := tables_1_1) (i := 12) rfl)) rfl
theorem mw_4_133 : (.code yX7_joined cX7_joined 5 (some .long) : Cond) ∈ wsA := wsA_t (List.mem_append_right _ (List.mem_append_right _ (List.mem_append_right _ (List.mem_append_left _ (List.mem_of_getElem? (l := tables_1_4) (i := 133) rfl))))) rfl
theorem mw_4_131 : (.methodLink RX7 90 yX7_joined : Cond) ∈ wsA := wsA_t (List.mem_append_right _ (List.mem_append_right _ (List.mem_append_right _ (List.mem_append_left _ (List.mem_of_getElem? (l := tables_1_4) (i := 131) rfl))))) rfl
theorem dX7_work_0 : decode cX7_work 0 = .ok (.iconst 0, 1) := by decide +kernel
theorem dX7_work_1 : decode cX7_work 1 = .ok (.istore 5, 2) := by decide +kernel
theorem dX7_work_3 : decode cX7_work 3 = .ok (.iload_n 1, 1) := by decide +kernel
theorem dX7_work_4 : decode cX7_work 4 = .ok (.istore 6, 2) := by decide +kernel
theorem dX7_work_6 : decode cX7_work 6 = .ok (.iload 6, 2) := by decide +kernel
theorem dX7_work_8 : decode cX7_work 8 = .ok (.iload_n 2, 1) := by decide +kernel
theorem dX7_work_9 : decode cX7_work 9 = .ok (.if_icmp .ge 148, 3) := by decide +kernel
theorem dX7_work_157 : decode cX7_work 157 = .ok (.iload 5, 2) := by decide +kernel
theorem dX7_work_159 : decode cX7_work 159 = .ok (.iconst 1, 1) := by decide +kernel
theorem dX7_work_160 : decode cX7_work 160 = .ok (.if_icmp .lt 13, 3) := by decide +kernel
theorem dX7_work_173 : decode cX7_work 173 = .ok (.lconst 0, 1) := by decide +kernel
theorem dX7_work_174 : decode cX7_work 174 = .ok (.lreturn, 1) := by decide +kernel
theorem dX7_work_163 : decode cX7_work 163 = .ok (.aload 4, 2) := by decide +kernel
theorem dX7_work_165 : decode cX7_work 165 = .ok (.iload 5, 2) := by decide +kernel
theorem dX7_work_167 : decode cX7_work 167 = .ok (.iconst 1, 1) := by decide +kernel
theorem dX7_work_168 : decode cX7_work 168 = .ok (.isub, 1) := by decide +kernel
theorem dX7_work_169 : decode cX7_work 169 = .ok (.laload, 1) := by decide +kernel
theorem dX7_work_170 : decode cX7_work 170 = .ok (.goto 4, 3) := by decide +kernel
theorem dX7_work_12 : decode cX7_work 12 = .ok (.aload_n 0, 1) := by decide +kernel
theorem dX7_work_13 : decode cX7_work 13 = .ok (.getfield 11, 3) := by decide +kernel
theorem dX7_work_16 : decode cX7_work 16 = .ok (.iload 6, 2) := by decide +kernel
theorem dX7_work_18 : decode cX7_work 18 = .ok (.iaload, 1) := by decide +kernel
theorem dX7_work_19 : decode cX7_work 19 = .ok (.istore 7, 2) := by decide +kernel
theorem dX7_work_21 : decode cX7_work 21 = .ok (.iload 7, 2) := by decide +kernel
theorem dX7_work_23 : decode cX7_work 23 = .ok (.sipush 1000, 3) := by decide +kernel
theorem dX7_work_26 : decode cX7_work 26 = .ok (.if_icmp .ge 10, 3) := by decide +kernel
theorem dX7_work_36 : decode cX7_work 36 = .ok (.iload 5, 2) := by decide +kernel
theorem dX7_work_38 : decode cX7_work 38 = .ok (.aload 4, 2) := by decide +kernel
theorem dX7_work_40 : decode cX7_work 40 = .ok (.arraylength, 1) := by decide +kernel
theorem dX7_work_41 : decode cX7_work 41 = .ok (.if_icmp .ge 110, 3) := by decide +kernel
theorem dX7_work_151 : decode cX7_work 151 = .ok (.iinc 6 1, 3) := by decide +kernel
theorem dX7_work_154 : decode cX7_work 154 = .ok (.goto (-148), 3) := by decide +kernel
theorem dX7_work_44 : decode cX7_work 44 = .ok (.aload 4, 2) := by decide +kernel
theorem dX7_work_46 : decode cX7_work 46 = .ok (.iload 5, 2) := by decide +kernel
theorem dX7_work_48 : decode cX7_work 48 = .ok (.iload 7, 2) := by decide +kernel
theorem dX7_work_50 : decode cX7_work 50 = .ok (.sipush 1000, 3) := by decide +kernel
theorem dX7_work_53 : decode cX7_work 53 = .ok (.if_icmp .lt 13, 3) := by decide +kernel
theorem dX7_work_56 : decode cX7_work 56 = .ok (.iload 7, 2) := by decide +kernel
theorem dX7_work_58 : decode cX7_work 58 = .ok (.sipush 1000, 3) := by decide +kernel
theorem dX7_work_61 : decode cX7_work 61 = .ok (.isub, 1) := by decide +kernel
theorem dX7_work_62 : decode cX7_work 62 = .ok (.i2l, 1) := by decide +kernel
theorem dX7_work_63 : decode cX7_work 63 = .ok (.goto 7, 3) := by decide +kernel
theorem dX7_work_70 : decode cX7_work 70 = .ok (.lastore, 1) := by decide +kernel
theorem dX7_work_71 : decode cX7_work 71 = .ok (.iinc 5 1, 3) := by decide +kernel
theorem dX7_work_74 : decode cX7_work 74 = .ok (.goto 77, 3) := by decide +kernel
theorem dX7_work_29 : decode cX7_work 29 = .ok (.iload 7, 2) := by decide +kernel
theorem dX7_work_31 : decode cX7_work 31 = .ok (.bipush 10, 2) := by decide +kernel
theorem dX7_work_33 : decode cX7_work 33 = .ok (.if_icmp .ge 44, 3) := by decide +kernel
theorem dX7_work_77 : decode cX7_work 77 = .ok (.iload 7, 2) := by decide +kernel
theorem dX7_work_79 : decode cX7_work 79 = .ok (.sipush 142, 3) := by decide +kernel
theorem dX7_work_82 : decode cX7_work 82 = .ok (.if_icmp .ne 36, 3) := by decide +kernel
theorem dX7_work_118 : decode cX7_work 118 = .ok (.iload 5, 2) := by decide +kernel
theorem dX7_work_120 : decode cX7_work 120 = .ok (.iconst 2, 1) := by decide +kernel
theorem dX7_work_121 : decode cX7_work 121 = .ok (.if_icmp .lt 30, 3) := by decide +kernel
theorem dX7_work_124 : decode cX7_work 124 = .ok (.iinc 5 (-1), 3) := by decide +kernel
theorem dX7_work_127 : decode cX7_work 127 = .ok (.aload 4, 2) := by decide +kernel
theorem dX7_work_129 : decode cX7_work 129 = .ok (.iload 5, 2) := by decide +kernel
theorem dX7_work_131 : decode cX7_work 131 = .ok (.iconst 1, 1) := by decide +kernel
theorem dX7_work_132 : decode cX7_work 132 = .ok (.isub, 1) := by decide +kernel
theorem dX7_work_133 : decode cX7_work 133 = .ok (.iload 7, 2) := by decide +kernel
theorem dX7_work_135 : decode cX7_work 135 = .ok (.aload 4, 2) := by decide +kernel
theorem dX7_work_137 : decode cX7_work 137 = .ok (.iload 5, 2) := by decide +kernel
theorem dX7_work_139 : decode cX7_work 139 = .ok (.iconst 1, 1) := by decide +kernel
theorem dX7_work_140 : decode cX7_work 140 = .ok (.isub, 1) := by decide +kernel
theorem dX7_work_141 : decode cX7_work 141 = .ok (.laload, 1) := by decide +kernel
theorem dX7_work_142 : decode cX7_work 142 = .ok (.aload 4, 2) := by decide +kernel
theorem dX7_work_144 : decode cX7_work 144 = .ok (.iload 5, 2) := by decide +kernel
theorem dX7_work_146 : decode cX7_work 146 = .ok (.laload, 1) := by decide +kernel
theorem dX7_work_147 : decode cX7_work 147 = .ok (.invokestatic 90, 3) := by decide +kernel
theorem dX7_work_150 : decode cX7_work 150 = .ok (.lastore, 1) := by decide +kernel
theorem dX7_work_85 : decode cX7_work 85 = .ok (.iload 5, 2) := by decide +kernel
theorem dX7_work_87 : decode cX7_work 87 = .ok (.iconst 1, 1) := by decide +kernel
theorem dX7_work_88 : decode cX7_work 88 = .ok (.if_icmp .lt 63, 3) := by decide +kernel
theorem dX7_work_91 : decode cX7_work 91 = .ok (.aload 4, 2) := by decide +kernel
theorem dX7_work_93 : decode cX7_work 93 = .ok (.iload 5, 2) := by decide +kernel
theorem dX7_work_95 : decode cX7_work 95 = .ok (.iconst 1, 1) := by decide +kernel
theorem dX7_work_96 : decode cX7_work 96 = .ok (.isub, 1) := by decide +kernel
theorem dX7_work_97 : decode cX7_work 97 = .ok (.aload 4, 2) := by decide +kernel
theorem dX7_work_99 : decode cX7_work 99 = .ok (.iload 5, 2) := by decide +kernel
theorem dX7_work_101 : decode cX7_work 101 = .ok (.iconst 1, 1) := by decide +kernel
theorem dX7_work_102 : decode cX7_work 102 = .ok (.isub, 1) := by decide +kernel
theorem dX7_work_103 : decode cX7_work 103 = .ok (.laload, 1) := by decide +kernel
theorem dX7_work_104 : decode cX7_work 104 = .ok (.lconst 0, 1) := by decide +kernel
theorem dX7_work_105 : decode cX7_work 105 = .ok (.lcmp, 1) := by decide +kernel
theorem dX7_work_106 : decode cX7_work 106 = .ok (.ifCond .ne 7, 3) := by decide +kernel
theorem dX7_work_113 : decode cX7_work 113 = .ok (.lconst 0, 1) := by decide +kernel
theorem dX7_work_114 : decode cX7_work 114 = .ok (.lastore, 1) := by decide +kernel
theorem dX7_work_115 : decode cX7_work 115 = .ok (.goto 36, 3) := by decide +kernel
theorem dX7_work_109 : decode cX7_work 109 = .ok (.lconst 1, 1) := by decide +kernel
theorem dX7_work_110 : decode cX7_work 110 = .ok (.goto 4, 3) := by decide +kernel
theorem dX7_work_66 : decode cX7_work 66 = .ok (.aload_n 3, 1) := by decide +kernel
theorem dX7_work_67 : decode cX7_work 67 = .ok (.iload 7, 2) := by decide +kernel
theorem dX7_work_69 : decode cX7_work 69 = .ok (.laload, 1) := by decide +kernel
theorem ms_X7_joined : MS RX7 yX7_joined cX7_joined 5 (some .long) 3 := ⟨mw_4_132, mw_1_12, mw_4_133, ⟨rfl, by decide, by decide, by decide +kernel⟩⟩
set_option maxHeartbeats 4000000 in
set_option maxRecDepth 100000 in
theorem cy_X7_work (l : Launch) (D : va_G) (cA : Nat → ClassId) (L : List Nat) (T : Nat → Nat) (r : Rg) (hG : GR L T r) (hL : L.Nodup) (σ : Sg) (ρ : Lg) (hW : WT L ry T σ) (sz : Nat) (h0 : Nat) (mh0 : h0 ∈ L) (th0 : T h0 = 7) (p1 : Int32) (p2 : Int32) (h3 : Nat) (mh3 : h3 ∈ L) (th3 : T h3 = 39) (h4 : Nat) (mh4 : h4 ∈ L) (th4 : T h4 = 40) (w0 : 0 ≤ p1.toInt) (w1 : p1.toInt ≤ 401) (w2 : p2.toInt ≤ 401) : Met l yX7_work (.code yX7_work cX7_work 8 (some .long) :: wsA) ({ frames := 1, cells := 0, slots := 0, locals := 24 }) (PR D cA L T r σ ρ sz [.ref h0, .int p1, .int p2, .ref h3, .ref h4]) (QL D cA L T r ry ([] : List (Nat × Nat)) σ sz (fun x σ1 => True)) 0 0 (dm L sz) := by
  refine Met.ofW (cc := cX7_work) (maxL := 8) (ret := (some .long)) (by decide) rfl ?_
  intro p e s m args below meth c s₁ B hml hv
  obtain ⟨rfl, hsz, hP, hK, hN⟩ := hv
  have hx := B.exec
  have hb := B.bytes
  have hr := B.returns
  have hts : ∀ w ∈ wsA, w.before _ s = true := fun w h => atoms_spec (ws := .code yX7_work cX7_work 8 (some .long) :: wsA) B.pre w (List.mem_cons_of_mem _ h)
  have hown : s.vm.findClass RX7 = some m.cls := findClass_of_methodNamed B.named
  subst hsz
  have hLA : LA (dm L s.heap.size) L := ⟨hL, fun a h => Or.inl h⟩
  have hA : ∀ q : Nat, s.heap.size ≤ q → dm L s.heap.size q := fun q h => Or.inr h
  have hS : va_S (dm L s.heap.size) s.heap s.heap [] := va_S.rf
  have hB : TS D cA L T r ry ([] : List (Nat × Nat)) σ σ ρ s.heap := ⟨hP, hW, FR.rf⟩
  have hl := lv_entry ([.ref h0, .int p1, .int p2, .ref h3, .ref h4]) (n := 8) (Nat.le_of_ble_eq_true rfl)
  rw [lg_entry_eq]
  generalize (lg_sl ([.ref h0, .int p1, .int p2, .ref h3, .ref h4]) ++ List.replicate (8 - (lg_sl ([.ref h0, .int p1, .int p2, .ref h3, .ref h4])).length) Slot.unset).toArray = ls at hl ⊢
  have hl : lv_has ls 8 [(0, .ref h0), (1, .int p1), (2, .int p2), (3, .ref h3), (4, .ref h4)] := hl
  refine lv_iconst (v := 0) hx hb dX7_work_0 (by decide) ?_
  refine lv_istore (lv' := [(5, .int 0), (0, .ref h0), (1, .int p1), (2, .int p2), (3, .ref h3), (4, .ref h4)]) hx hb dX7_work_1 hl (by decide) rfl (fun ls hl => ?_)
  refine lv_iload_n hx hb dX7_work_3 rfl (lv_at hl 2 rfl) ?_
  refine lv_istore (lv' := [(6, .int p1), (5, .int 0), (0, .ref h0), (1, .int p1), (2, .int p2), (3, .ref h3), (4, .ref h4)]) hx hb dX7_work_4 hl (by decide) rfl (fun ls hl => ?_)
  refine w_loop (α := Int32 × Int32 × Sg × Lg) (fun (i_1, i_2, σ_3, ρ_4) H locs ls => 0 ≤ i_1.toInt ∧ i_1.toInt ≤ 64 ∧ 0 ≤ i_2.toInt ∧ i_2.toInt ≤ 401 ∧ TS D cA L T r ry ([] : List (Nat × Nat)) σ σ_3 ρ_4 H ∧ va_S (dm L s.heap.size) s.heap H locs ∧ lv_has ls 8 [(6, .int i_2), (5, .int i_1), (0, .ref h0), (1, .int p1), (2, .int p2), (3, .ref h3), (4, .ref h4)]) (fun (i_1, i_2, σ_3, ρ_4) => (401 - i_2.toInt).toNat) ?_ ⟨0, p1, σ, ρ⟩ ⟨(by decide), (by decide), (by omega), (by omega), hB, hS, lv_sub hl [0, 1, 2, 3, 4, 5, 6] rfl⟩
  rintro ⟨i_1, i_2, σ_3, ρ_4⟩ H locs ls ⟨li_1, ui_1, li_2, ui_2, hB, hS, hl⟩ ih_5
  refine lv_iload hx hb dX7_work_6 (lv_at hl 0 rfl) ?_
  refine lv_iload_n hx hb dX7_work_8 rfl (lv_at hl 4 rfl) ?_
  refine lv_icmp_ge (tgt := 157) hx hb dX7_work_9 (by decide) (fun c_6 => ?_) (fun c_6 => ?_)
  · skip
    have uc_6 := j_le c_6
    refine lv_iload hx hb dX7_work_157 (lv_at hl 1 rfl) ?_
    refine lv_iconst (v := 1) hx hb dX7_work_159 (by decide) ?_
    refine lv_icmp_lt (tgt := 173) hx hb dX7_work_160 (by decide) (fun c_7 => ?_) (fun c_7 => ?_)
    · skip
      have uc_7 := i_lt (n := 1) (by decide) c_7
      refine lv_lconst (v := 0) hx hb dX7_work_173 (by decide) ?_
      exact W.lret (v := 0) hx hb hr (fun t ht hW => ⟨⟨0, (σ_3, ρ_4), rfl, ⟨hB.2.1, hB.2.2, trivial⟩, (show TP D cA L T r σ_3 ρ_4 t.heap from by rw [ht]; exact hB.1)⟩, hS.F ht⟩) hS.2.2 dX7_work_174
    · skip
      have uc_7 := i_nlt (n := 1) (by decide) c_7
      refine lv_aload hx hb dX7_work_163 (lv_at hl 6 rfl) ?_
      refine lv_iload hx hb dX7_work_165 (lv_at hl 1 rfl) ?_
      refine lv_iconst (v := 1) hx hb dX7_work_167 (by decide) ?_
      refine lv_isub hx hb dX7_work_168 ?_
      refine lv_topi (fun x_8 ex_8 => ?_)
      have vx_8 := b_sub (rfl : i_1.toInt = _) (by decide : (1 : Int32).toInt = 1) ex_8 (by omega) (by omega)
      refine t_al hx hb hK hB mh4 th4 aj_40 (i_in (by omega) (by omega)) dX7_work_169 (fun y_9 ey_9 => ?_)
      refine lv_goto (tgt := 174) hx hb dX7_work_170 (by decide) ?_
      exact W.lret (v := y_9) hx hb hr (fun t ht hW => ⟨⟨y_9, (σ_3, ρ_4), rfl, ⟨hB.2.1, hB.2.2, trivial⟩, (show TP D cA L T r σ_3 ρ_4 t.heap from by rw [ht]; exact hB.1)⟩, hS.F ht⟩) hS.2.2 dX7_work_174
  · skip
    have uc_6 := j_nle c_6
    refine lv_aload_n hx hb dX7_work_12 rfl (lv_at hl 2 rfl) ?_
    refine t_gr hx hb hts hown hK hG hB mh0 th0 fq_7_0 rfl mw_2_182 dX7_work_13 (fun b_10 hb_10 mb_10 tb_10 => ?_)
    refine lv_iload hx hb dX7_work_16 (lv_at hl 0 rfl) ?_
    refine t_ai hx hb hK hB mb_10 tb_10 ai_41 (fun _ => rfl) (i_in (by omega) (by omega)) dX7_work_18 (fun x_11 ex_11 lx_11 ux_11 => ?_)
    refine lv_istore (lv' := [(7, .int x_11), (6, .int i_2), (5, .int i_1), (0, .ref h0), (1, .int p1), (2, .int p2), (3, .ref h3), (4, .ref h4)]) hx hb dX7_work_19 hl (by decide) rfl (fun ls hl => ?_)
    refine lv_iload hx hb dX7_work_21 (lv_at hl 0 rfl) ?_
    refine lv_sipush (v := 1000) hx hb dX7_work_23 (by decide) ?_
    refine lv_icmp_ge (tgt := 36) hx hb dX7_work_26 (by decide) (fun c_12 => ?_) (fun c_12 => ?_)
    · skip
      have uc_12 := i_ge (n := 1000) (by decide) c_12
      refine lv_iload hx hb dX7_work_36 (lv_at hl 2 rfl) ?_
      refine lv_aload hx hb dX7_work_38 (lv_at hl 7 rfl) ?_
      refine t_len (n := 64) (v := 64) hx hb hK hB mh4 th4 ((aj_40) _ _ _ _) rfl (show (tyA cA)[2]? = some (cA 2, _) from rfl) (by decide) dX7_work_40 ?_
      refine lv_icmp_ge (tgt := 151) hx hb dX7_work_41 (by decide) (fun c_13 => ?_) (fun c_13 => ?_)
      · skip
        have uc_13 := i_ge (n := 64) (by decide) c_13
        obtain ⟨x_14, ex_14⟩ : ∃ y : Int32, y = i_2 + 1 := ⟨_, rfl⟩
        have vx_14 := b_add (rfl : i_2.toInt = _) (by decide : (1 : Int32).toInt = 1) ex_14 (by omega) (by omega)
        refine lv_iinc (v := x_14) (lv' := [(6, .int x_14), (7, .int x_11), (5, .int i_1), (0, .ref h0), (1, .int p1), (2, .int p2), (3, .ref h3), (4, .ref h4)]) hx hb dX7_work_151 hl (k := 1) rfl (by rw [ex_14]; rfl) (by decide) rfl (fun ls hl => ?_)
        refine lv_goto (tgt := 6) hx hb dX7_work_154 (by decide) ?_
        exact ih_5 ⟨i_1, x_14, σ_3, ρ_4⟩ _ _ _ ⟨(by omega), (by omega), (by omega), (by omega), hB, hS, lv_sub hl [0, 2, 3, 4, 5, 6, 7] rfl⟩ (by show (401 - x_14.toInt).toNat < (401 - i_2.toInt).toNat; omega)
      · skip
        have uc_13 := i_nge (n := 64) (by decide) c_13
        refine lv_aload hx hb dX7_work_44 (lv_at hl 7 rfl) ?_
        refine lv_iload hx hb dX7_work_46 (lv_at hl 2 rfl) ?_
        refine lv_iload hx hb dX7_work_48 (lv_at hl 0 rfl) ?_
        refine lv_sipush (v := 1000) hx hb dX7_work_50 (by decide) ?_
        refine lv_icmp_lt (tgt := 66) hx hb dX7_work_53 (by decide) (fun c_15 => ?_) (fun c_15 => ?_)
        · skip
          have uc_15 := i_lt (n := 1000) (by decide) c_15
          exfalso; omega
        · skip
          have uc_15 := i_nlt (n := 1000) (by decide) c_15
          refine lv_iload hx hb dX7_work_56 (lv_at hl 0 rfl) ?_
          refine lv_sipush (v := 1000) hx hb dX7_work_58 (by decide) ?_
          refine lv_isub hx hb dX7_work_61 ?_
          refine lv_topi (fun x_16 ex_16 => ?_)
          have vx_16 := b_sub (rfl : x_11.toInt = _) (by decide : (1000 : Int32).toInt = 1000) ex_16 (by omega) (by omega)
          refine lv_i2l (v := x_16.toInt64) hx hb dX7_work_62 rfl ?_
          refine lv_goto (tgt := 70) hx hb dX7_work_63 (by decide) ?_
          refine t_sl hx hb hK hLA hB hS mh4 th4 aj_40 (i_in (by omega) (by omega)) dX7_work_70 (fun H locs ρ_17 eρ_17 hB hS => ?_)
          obtain ⟨x_18, ex_18⟩ : ∃ y : Int32, y = i_1 + 1 := ⟨_, rfl⟩
          have vx_18 := b_add (rfl : i_1.toInt = _) (by decide : (1 : Int32).toInt = 1) ex_18 (by omega) (by omega)
          refine lv_iinc (v := x_18) (lv' := [(5, .int x_18), (7, .int x_11), (6, .int i_2), (0, .ref h0), (1, .int p1), (2, .int p2), (3, .ref h3), (4, .ref h4)]) hx hb dX7_work_71 hl (k := 2) rfl (by rw [ex_18]; rfl) (by decide) rfl (fun ls hl => ?_)
          refine lv_goto (tgt := 151) hx hb dX7_work_74 (by decide) ?_
          obtain ⟨x_19, ex_19⟩ : ∃ y : Int32, y = i_2 + 1 := ⟨_, rfl⟩
          have vx_19 := b_add (rfl : i_2.toInt = _) (by decide : (1 : Int32).toInt = 1) ex_19 (by omega) (by omega)
          refine lv_iinc (v := x_19) (lv' := [(6, .int x_19), (5, .int x_18), (7, .int x_11), (0, .ref h0), (1, .int p1), (2, .int p2), (3, .ref h3), (4, .ref h4)]) hx hb dX7_work_151 hl (k := 2) rfl (by rw [ex_19]; rfl) (by decide) rfl (fun ls hl => ?_)
          refine lv_goto (tgt := 6) hx hb dX7_work_154 (by decide) ?_
          exact ih_5 ⟨x_18, x_19, σ_3, ρ_17⟩ _ _ _ ⟨(by omega), (by omega), (by omega), (by omega), hB, hS, lv_sub hl [0, 1, 3, 4, 5, 6, 7] rfl⟩ (by show (401 - x_19.toInt).toNat < (401 - i_2.toInt).toNat; omega)
    · skip
      have uc_12 := i_nge (n := 1000) (by decide) c_12
      refine lv_iload hx hb dX7_work_29 (lv_at hl 0 rfl) ?_
      refine lv_bipush (v := 10) hx hb dX7_work_31 (by decide) ?_
      refine lv_icmp_ge (tgt := 77) hx hb dX7_work_33 (by decide) (fun c_20 => ?_) (fun c_20 => ?_)
      · skip
        have uc_20 := i_ge (n := 10) (by decide) c_20
        refine lv_iload hx hb dX7_work_77 (lv_at hl 0 rfl) ?_
        refine lv_sipush (v := 142) hx hb dX7_work_79 (by decide) ?_
        refine lv_icmp_ne (tgt := 118) hx hb dX7_work_82 (by decide) (fun c_21 => ?_) (fun c_21 => ?_)
        · skip
          have uc_21 := i_ne (n := 142) (by decide) c_21
          refine lv_iload hx hb dX7_work_118 (lv_at hl 2 rfl) ?_
          refine lv_iconst (v := 2) hx hb dX7_work_120 (by decide) ?_
          refine lv_icmp_lt (tgt := 151) hx hb dX7_work_121 (by decide) (fun c_22 => ?_) (fun c_22 => ?_)
          · skip
            have uc_22 := i_lt (n := 2) (by decide) c_22
            obtain ⟨x_23, ex_23⟩ : ∃ y : Int32, y = i_2 + 1 := ⟨_, rfl⟩
            have vx_23 := b_add (rfl : i_2.toInt = _) (by decide : (1 : Int32).toInt = 1) ex_23 (by omega) (by omega)
            refine lv_iinc (v := x_23) (lv' := [(6, .int x_23), (7, .int x_11), (5, .int i_1), (0, .ref h0), (1, .int p1), (2, .int p2), (3, .ref h3), (4, .ref h4)]) hx hb dX7_work_151 hl (k := 1) rfl (by rw [ex_23]; rfl) (by decide) rfl (fun ls hl => ?_)
            refine lv_goto (tgt := 6) hx hb dX7_work_154 (by decide) ?_
            exact ih_5 ⟨i_1, x_23, σ_3, ρ_4⟩ _ _ _ ⟨(by omega), (by omega), (by omega), (by omega), hB, hS, lv_sub hl [0, 2, 3, 4, 5, 6, 7] rfl⟩ (by show (401 - x_23.toInt).toNat < (401 - i_2.toInt).toNat; omega)
          · skip
            have uc_22 := i_nlt (n := 2) (by decide) c_22
            obtain ⟨x_24, ex_24⟩ : ∃ y : Int32, y = i_1 + (-1) := ⟨_, rfl⟩
            have vx_24 := b_add (rfl : i_1.toInt = _) (by decide : ((-1) : Int32).toInt = (-1)) ex_24 (by omega) (by omega)
            refine lv_iinc (v := x_24) (lv' := [(5, .int x_24), (7, .int x_11), (6, .int i_2), (0, .ref h0), (1, .int p1), (2, .int p2), (3, .ref h3), (4, .ref h4)]) hx hb dX7_work_124 hl (k := 2) rfl (by rw [ex_24]; rfl) (by decide) rfl (fun ls hl => ?_)
            refine lv_aload hx hb dX7_work_127 (lv_at hl 7 rfl) ?_
            refine lv_iload hx hb dX7_work_129 (lv_at hl 0 rfl) ?_
            refine lv_iconst (v := 1) hx hb dX7_work_131 (by decide) ?_
            refine lv_isub hx hb dX7_work_132 ?_
            refine lv_topi (fun x_25 ex_25 => ?_)
            have vx_25 := b_sub (rfl : x_24.toInt = _) (by decide : (1 : Int32).toInt = 1) ex_25 (by omega) (by omega)
            refine lv_iload hx hb dX7_work_133 (lv_at hl 1 rfl) ?_
            refine lv_aload hx hb dX7_work_135 (lv_at hl 7 rfl) ?_
            refine lv_iload hx hb dX7_work_137 (lv_at hl 0 rfl) ?_
            refine lv_iconst (v := 1) hx hb dX7_work_139 (by decide) ?_
            refine lv_isub hx hb dX7_work_140 ?_
            refine lv_topi (fun x_26 ex_26 => ?_)
            have vx_26 := b_sub (rfl : x_24.toInt = _) (by decide : (1 : Int32).toInt = 1) ex_26 (by omega) (by omega)
            refine t_al hx hb hK hB mh4 th4 aj_40 (i_in (by omega) (by omega)) dX7_work_141 (fun y_27 ey_27 => ?_)
            refine lv_aload hx hb dX7_work_142 (lv_at hl 7 rfl) ?_
            refine lv_iload hx hb dX7_work_144 (lv_at hl 0 rfl) ?_
            refine t_al hx hb hK hB mh4 th4 aj_40 (i_in (by omega) (by omega)) dX7_work_146 (fun y_28 ey_28 => ?_)
            refine t_cl (va_runS (As := [.int x_11, .long y_27, .long y_28]) (rest := [.int x_25, .ref h4]) ⟨hx, hb, hml, hown, hts⟩ (cy_X7_joined l D cA L T r hG hLA.1 σ_3 ρ_4 hB.2.1 _ x_11 y_27 y_28) (cS hts ms_X7_joined mw_4_131 rfl rfl ⟨Nat.le_of_ble_eq_true rfl, Nat.le_of_ble_eq_true rfl⟩) (pS hB.1 hK hN) rfl rfl hl.1 rfl (lv_room (Nat.le_of_ble_eq_true rfl)) dX7_work_147 ⟨Nat.le_of_ble_eq_true rfl, Nat.le_of_ble_eq_true rfl⟩) hLA hA hB hS (by decide) (fun y_31 σ_29 ρ_30 H locs hB fσ_29 pσ_29 hS => ?_)
            have qσ_29 := FR.nil fσ_29
            subst qσ_29
            refine t_sl hx hb hK hLA hB hS mh4 th4 aj_40 (i_in (by omega) (by omega)) dX7_work_150 (fun H locs ρ_32 eρ_32 hB hS => ?_)
            obtain ⟨x_33, ex_33⟩ : ∃ y : Int32, y = i_2 + 1 := ⟨_, rfl⟩
            have vx_33 := b_add (rfl : i_2.toInt = _) (by decide : (1 : Int32).toInt = 1) ex_33 (by omega) (by omega)
            refine lv_iinc (v := x_33) (lv' := [(6, .int x_33), (5, .int x_24), (7, .int x_11), (0, .ref h0), (1, .int p1), (2, .int p2), (3, .ref h3), (4, .ref h4)]) hx hb dX7_work_151 hl (k := 2) rfl (by rw [ex_33]; rfl) (by decide) rfl (fun ls hl => ?_)
            refine lv_goto (tgt := 6) hx hb dX7_work_154 (by decide) ?_
            exact ih_5 ⟨x_24, x_33, σ_3, ρ_32⟩ _ _ _ ⟨(by omega), (by omega), (by omega), (by omega), hB, hS, lv_sub hl [0, 1, 3, 4, 5, 6, 7] rfl⟩ (by show (401 - x_33.toInt).toNat < (401 - i_2.toInt).toNat; omega)
        · skip
          have uc_21 := i_eq (n := 142) (by decide) c_21
          refine lv_iload hx hb dX7_work_85 (lv_at hl 2 rfl) ?_
          refine lv_iconst (v := 1) hx hb dX7_work_87 (by decide) ?_
          refine lv_icmp_lt (tgt := 151) hx hb dX7_work_88 (by decide) (fun c_34 => ?_) (fun c_34 => ?_)
          · skip
            have uc_34 := i_lt (n := 1) (by decide) c_34
            obtain ⟨x_35, ex_35⟩ : ∃ y : Int32, y = i_2 + 1 := ⟨_, rfl⟩
            have vx_35 := b_add (rfl : i_2.toInt = _) (by decide : (1 : Int32).toInt = 1) ex_35 (by omega) (by omega)
            refine lv_iinc (v := x_35) (lv' := [(6, .int x_35), (7, .int x_11), (5, .int i_1), (0, .ref h0), (1, .int p1), (2, .int p2), (3, .ref h3), (4, .ref h4)]) hx hb dX7_work_151 hl (k := 1) rfl (by rw [ex_35]; rfl) (by decide) rfl (fun ls hl => ?_)
            refine lv_goto (tgt := 6) hx hb dX7_work_154 (by decide) ?_
            exact ih_5 ⟨i_1, x_35, σ_3, ρ_4⟩ _ _ _ ⟨(by omega), (by omega), (by omega), (by omega), hB, hS, lv_sub hl [0, 2, 3, 4, 5, 6, 7] rfl⟩ (by show (401 - x_35.toInt).toNat < (401 - i_2.toInt).toNat; omega)
          · skip
            have uc_34 := i_nlt (n := 1) (by decide) c_34
            refine lv_aload hx hb dX7_work_91 (lv_at hl 7 rfl) ?_
            refine lv_iload hx hb dX7_work_93 (lv_at hl 2 rfl) ?_
            refine lv_iconst (v := 1) hx hb dX7_work_95 (by decide) ?_
            refine lv_isub hx hb dX7_work_96 ?_
            refine lv_topi (fun x_36 ex_36 => ?_)
            have vx_36 := b_sub (rfl : i_1.toInt = _) (by decide : (1 : Int32).toInt = 1) ex_36 (by omega) (by omega)
            refine lv_aload hx hb dX7_work_97 (lv_at hl 7 rfl) ?_
            refine lv_iload hx hb dX7_work_99 (lv_at hl 2 rfl) ?_
            refine lv_iconst (v := 1) hx hb dX7_work_101 (by decide) ?_
            refine lv_isub hx hb dX7_work_102 ?_
            refine lv_topi (fun x_37 ex_37 => ?_)
            have vx_37 := b_sub (rfl : i_1.toInt = _) (by decide : (1 : Int32).toInt = 1) ex_37 (by omega) (by omega)
            refine t_al hx hb hK hB mh4 th4 aj_40 (i_in (by omega) (by omega)) dX7_work_103 (fun y_38 ey_38 => ?_)
            refine lv_lconst (v := 0) hx hb dX7_work_104 (by decide) ?_
            refine W.lcmp hx hb dX7_work_105 ?_
            refine lv_if_ne (tgt := 113) hx hb dX7_work_106 (by decide) (fun c_39 => ?_) (fun c_39 => ?_)
            · skip
              have uc_39 := mt (lg_cmp_eq _ _).mpr c_39
              refine lv_lconst (v := 0) hx hb dX7_work_113 (by decide) ?_
              refine t_sl hx hb hK hLA hB hS mh4 th4 aj_40 (i_in (by omega) (by omega)) dX7_work_114 (fun H locs ρ_40 eρ_40 hB hS => ?_)
              refine lv_goto (tgt := 151) hx hb dX7_work_115 (by decide) ?_
              obtain ⟨x_41, ex_41⟩ : ∃ y : Int32, y = i_2 + 1 := ⟨_, rfl⟩
              have vx_41 := b_add (rfl : i_2.toInt = _) (by decide : (1 : Int32).toInt = 1) ex_41 (by omega) (by omega)
              refine lv_iinc (v := x_41) (lv' := [(6, .int x_41), (7, .int x_11), (5, .int i_1), (0, .ref h0), (1, .int p1), (2, .int p2), (3, .ref h3), (4, .ref h4)]) hx hb dX7_work_151 hl (k := 1) rfl (by rw [ex_41]; rfl) (by decide) rfl (fun ls hl => ?_)
              refine lv_goto (tgt := 6) hx hb dX7_work_154 (by decide) ?_
              exact ih_5 ⟨i_1, x_41, σ_3, ρ_40⟩ _ _ _ ⟨(by omega), (by omega), (by omega), (by omega), hB, hS, lv_sub hl [0, 2, 3, 4, 5, 6, 7] rfl⟩ (by show (401 - x_41.toInt).toNat < (401 - i_2.toInt).toNat; omega)
            · skip
              have uc_39 := (lg_cmp_eq _ _).mp c_39
              refine lv_lconst (v := 1) hx hb dX7_work_109 (by decide) ?_
              refine lv_goto (tgt := 114) hx hb dX7_work_110 (by decide) ?_
              refine t_sl hx hb hK hLA hB hS mh4 th4 aj_40 (i_in (by omega) (by omega)) dX7_work_114 (fun H locs ρ_42 eρ_42 hB hS => ?_)
              refine lv_goto (tgt := 151) hx hb dX7_work_115 (by decide) ?_
              obtain ⟨x_43, ex_43⟩ : ∃ y : Int32, y = i_2 + 1 := ⟨_, rfl⟩
              have vx_43 := b_add (rfl : i_2.toInt = _) (by decide : (1 : Int32).toInt = 1) ex_43 (by omega) (by omega)
              refine lv_iinc (v := x_43) (lv' := [(6, .int x_43), (7, .int x_11), (5, .int i_1), (0, .ref h0), (1, .int p1), (2, .int p2), (3, .ref h3), (4, .ref h4)]) hx hb dX7_work_151 hl (k := 1) rfl (by rw [ex_43]; rfl) (by decide) rfl (fun ls hl => ?_)
              refine lv_goto (tgt := 6) hx hb dX7_work_154 (by decide) ?_
              exact ih_5 ⟨i_1, x_43, σ_3, ρ_42⟩ _ _ _ ⟨(by omega), (by omega), (by omega), (by omega), hB, hS, lv_sub hl [0, 2, 3, 4, 5, 6, 7] rfl⟩ (by show (401 - x_43.toInt).toNat < (401 - i_2.toInt).toNat; omega)
      · skip
        have uc_20 := i_nge (n := 10) (by decide) c_20
        refine lv_iload hx hb dX7_work_36 (lv_at hl 2 rfl) ?_
        refine lv_aload hx hb dX7_work_38 (lv_at hl 7 rfl) ?_
        refine t_len (n := 64) (v := 64) hx hb hK hB mh4 th4 ((aj_40) _ _ _ _) rfl (show (tyA cA)[2]? = some (cA 2, _) from rfl) (by decide) dX7_work_40 ?_
        refine lv_icmp_ge (tgt := 151) hx hb dX7_work_41 (by decide) (fun c_44 => ?_) (fun c_44 => ?_)
        · skip
          have uc_44 := i_ge (n := 64) (by decide) c_44
          obtain ⟨x_45, ex_45⟩ : ∃ y : Int32, y = i_2 + 1 := ⟨_, rfl⟩
          have vx_45 := b_add (rfl : i_2.toInt = _) (by decide : (1 : Int32).toInt = 1) ex_45 (by omega) (by omega)
          refine lv_iinc (v := x_45) (lv' := [(6, .int x_45), (7, .int x_11), (5, .int i_1), (0, .ref h0), (1, .int p1), (2, .int p2), (3, .ref h3), (4, .ref h4)]) hx hb dX7_work_151 hl (k := 1) rfl (by rw [ex_45]; rfl) (by decide) rfl (fun ls hl => ?_)
          refine lv_goto (tgt := 6) hx hb dX7_work_154 (by decide) ?_
          exact ih_5 ⟨i_1, x_45, σ_3, ρ_4⟩ _ _ _ ⟨(by omega), (by omega), (by omega), (by omega), hB, hS, lv_sub hl [0, 2, 3, 4, 5, 6, 7] rfl⟩ (by show (401 - x_45.toInt).toNat < (401 - i_2.toInt).toNat; omega)
        · skip
          have uc_44 := i_nge (n := 64) (by decide) c_44
          refine lv_aload hx hb dX7_work_44 (lv_at hl 7 rfl) ?_
          refine lv_iload hx hb dX7_work_46 (lv_at hl 2 rfl) ?_
          refine lv_iload hx hb dX7_work_48 (lv_at hl 0 rfl) ?_
          refine lv_sipush (v := 1000) hx hb dX7_work_50 (by decide) ?_
          refine lv_icmp_lt (tgt := 66) hx hb dX7_work_53 (by decide) (fun c_46 => ?_) (fun c_46 => ?_)
          · skip
            have uc_46 := i_lt (n := 1000) (by decide) c_46
            refine lv_aload_n hx hb dX7_work_66 rfl (lv_at hl 6 rfl) ?_
            refine lv_iload hx hb dX7_work_67 (lv_at hl 0 rfl) ?_
            refine t_al hx hb hK hB mh3 th3 aj_39 (i_in (by omega) (by omega)) dX7_work_69 (fun y_47 ey_47 => ?_)
            refine t_sl hx hb hK hLA hB hS mh4 th4 aj_40 (i_in (by omega) (by omega)) dX7_work_70 (fun H locs ρ_48 eρ_48 hB hS => ?_)
            obtain ⟨x_49, ex_49⟩ : ∃ y : Int32, y = i_1 + 1 := ⟨_, rfl⟩
            have vx_49 := b_add (rfl : i_1.toInt = _) (by decide : (1 : Int32).toInt = 1) ex_49 (by omega) (by omega)
            refine lv_iinc (v := x_49) (lv' := [(5, .int x_49), (7, .int x_11), (6, .int i_2), (0, .ref h0), (1, .int p1), (2, .int p2), (3, .ref h3), (4, .ref h4)]) hx hb dX7_work_71 hl (k := 2) rfl (by rw [ex_49]; rfl) (by decide) rfl (fun ls hl => ?_)
            refine lv_goto (tgt := 151) hx hb dX7_work_74 (by decide) ?_
            obtain ⟨x_50, ex_50⟩ : ∃ y : Int32, y = i_2 + 1 := ⟨_, rfl⟩
            have vx_50 := b_add (rfl : i_2.toInt = _) (by decide : (1 : Int32).toInt = 1) ex_50 (by omega) (by omega)
            refine lv_iinc (v := x_50) (lv' := [(6, .int x_50), (5, .int x_49), (7, .int x_11), (0, .ref h0), (1, .int p1), (2, .int p2), (3, .ref h3), (4, .ref h4)]) hx hb dX7_work_151 hl (k := 2) rfl (by rw [ex_50]; rfl) (by decide) rfl (fun ls hl => ?_)
            refine lv_goto (tgt := 6) hx hb dX7_work_154 (by decide) ?_
            exact ih_5 ⟨x_49, x_50, σ_3, ρ_48⟩ _ _ _ ⟨(by omega), (by omega), (by omega), (by omega), hB, hS, lv_sub hl [0, 1, 3, 4, 5, 6, 7] rfl⟩ (by show (401 - x_50.toInt).toNat < (401 - i_2.toInt).toNat; omega)
          · skip
            have uc_46 := i_nlt (n := 1000) (by decide) c_46
            exfalso; omega
theorem mw_2_186 : (.fieldLink RX7 29 "HillBends$Rule" "clauses" "I" : Cond) ∈ wsA := wsA_t (List.mem_append_right _ (List.mem_append_left _ (List.mem_of_getElem? (l := tables_1_2) (i := 186) rfl))) rfl
theorem mw_2_184 : (.fieldLink RX7 20 "HillBends$Rule" "testFrom" "[I" : Cond) ∈ wsA := wsA_t (List.mem_append_right _ (List.mem_append_left _ (List.mem_of_getElem? (l := tables_1_2) (i := 184) rfl))) rfl
theorem mw_2_185 : (.fieldLink RX7 23 "HillBends$Rule" "clauseTo" "[I" : Cond) ∈ wsA := wsA_t (List.mem_append_right _ (List.mem_append_left _ (List.mem_of_getElem? (l := tables_1_2) (i := 185) rfl))) rfl
theorem mw_4_129 : (.instanceMethod yX7_work : Cond) ∈ wsA := wsA_t (List.mem_append_right _ (List.mem_append_right _ (List.mem_append_right _ (List.mem_append_left _ (List.mem_of_getElem? (l := tables_1_4) (i := 129) rfl))))) rfl
theorem mp_2_11 : (.selects RX7 yX7_work yX7_work : Cond) ∈ wsA := wsA_p (q := (yX7_work, 8)) (List.mem_append_right _ (List.mem_append_left _ (List.mem_of_getElem? (l := lw_privs_2) (i := 11) rfl)))
theorem mw_4_130 : (.code yX7_work cX7_work 8 (some .long) : Cond) ∈ wsA := wsA_t (List.mem_append_right _ (List.mem_append_right _ (List.mem_append_right _ (List.mem_append_left _ (List.mem_of_getElem? (l := tables_1_4) (i := 130) rfl))))) rfl
theorem mw_4_127 : (.methodLink RX7 86 yX7_work : Cond) ∈ wsA := wsA_t (List.mem_append_right _ (List.mem_append_right _ (List.mem_append_right _ (List.mem_append_left _ (List.mem_of_getElem? (l := tables_1_4) (i := 127) rfl))))) rfl
theorem mw_2_183 : (.fieldLink RX7 17 "HillBends$Rule" "sumFrom" "[I" : Cond) ∈ wsA := wsA_t (List.mem_append_right _ (List.mem_append_left _ (List.mem_of_getElem? (l := tables_1_2) (i := 183) rfl))) rfl
theorem dX7_valueFor_0 : decode cX7_valueFor 0 = .ok (.iconst 0, 1) := by decide +kernel
theorem dX7_valueFor_1 : decode cX7_valueFor 1 = .ok (.istore_n 3, 1) := by decide +kernel
theorem dX7_valueFor_2 : decode cX7_valueFor 2 = .ok (.iload_n 3, 1) := by decide +kernel
theorem dX7_valueFor_3 : decode cX7_valueFor 3 = .ok (.aload_n 0, 1) := by decide +kernel
theorem dX7_valueFor_4 : decode cX7_valueFor 4 = .ok (.getfield 29, 3) := by decide +kernel
theorem dX7_valueFor_7 : decode cX7_valueFor 7 = .ok (.if_icmp .ge 78, 3) := by decide +kernel
theorem dX7_valueFor_85 : decode cX7_valueFor 85 = .ok (.lconst 0, 1) := by decide +kernel
theorem dX7_valueFor_86 : decode cX7_valueFor 86 = .ok (.lreturn, 1) := by decide +kernel
theorem dX7_valueFor_10 : decode cX7_valueFor 10 = .ok (.aload_n 0, 1) := by decide +kernel
theorem dX7_valueFor_11 : decode cX7_valueFor 11 = .ok (.getfield 20, 3) := by decide +kernel
theorem dX7_valueFor_14 : decode cX7_valueFor 14 = .ok (.iload_n 3, 1) := by decide +kernel
theorem dX7_valueFor_15 : decode cX7_valueFor 15 = .ok (.iaload, 1) := by decide +kernel
theorem dX7_valueFor_16 : decode cX7_valueFor 16 = .ok (.aload_n 0, 1) := by decide +kernel
theorem dX7_valueFor_17 : decode cX7_valueFor 17 = .ok (.getfield 23, 3) := by decide +kernel
theorem dX7_valueFor_20 : decode cX7_valueFor 20 = .ok (.iload_n 3, 1) := by decide +kernel
theorem dX7_valueFor_21 : decode cX7_valueFor 21 = .ok (.iaload, 1) := by decide +kernel
theorem dX7_valueFor_22 : decode cX7_valueFor 22 = .ok (.if_icmp .ne 7, 3) := by decide +kernel
theorem dX7_valueFor_29 : decode cX7_valueFor 29 = .ok (.iconst 0, 1) := by decide +kernel
theorem dX7_valueFor_30 : decode cX7_valueFor 30 = .ok (.istore 4, 2) := by decide +kernel
theorem dX7_valueFor_32 : decode cX7_valueFor 32 = .ok (.iload 4, 2) := by decide +kernel
theorem dX7_valueFor_34 : decode cX7_valueFor 34 = .ok (.ifCond .ne 26, 3) := by decide +kernel
theorem dX7_valueFor_37 : decode cX7_valueFor 37 = .ok (.aload_n 0, 1) := by decide +kernel
theorem dX7_valueFor_38 : decode cX7_valueFor 38 = .ok (.aload_n 0, 1) := by decide +kernel
theorem dX7_valueFor_39 : decode cX7_valueFor 39 = .ok (.getfield 20, 3) := by decide +kernel
theorem dX7_valueFor_42 : decode cX7_valueFor 42 = .ok (.iload_n 3, 1) := by decide +kernel
theorem dX7_valueFor_43 : decode cX7_valueFor 43 = .ok (.iaload, 1) := by decide +kernel
theorem dX7_valueFor_44 : decode cX7_valueFor 44 = .ok (.aload_n 0, 1) := by decide +kernel
theorem dX7_valueFor_45 : decode cX7_valueFor 45 = .ok (.getfield 23, 3) := by decide +kernel
theorem dX7_valueFor_48 : decode cX7_valueFor 48 = .ok (.iload_n 3, 1) := by decide +kernel
theorem dX7_valueFor_49 : decode cX7_valueFor 49 = .ok (.iaload, 1) := by decide +kernel
theorem dX7_valueFor_50 : decode cX7_valueFor 50 = .ok (.aload_n 1, 1) := by decide +kernel
theorem dX7_valueFor_51 : decode cX7_valueFor 51 = .ok (.aload_n 2, 1) := by decide +kernel
theorem dX7_valueFor_52 : decode cX7_valueFor 52 = .ok (.invokevirtual 86, 3) := by decide +kernel
theorem dX7_valueFor_55 : decode cX7_valueFor 55 = .ok (.lconst 0, 1) := by decide +kernel
theorem dX7_valueFor_56 : decode cX7_valueFor 56 = .ok (.lcmp, 1) := by decide +kernel
theorem dX7_valueFor_57 : decode cX7_valueFor 57 = .ok (.ifCond .eq 22, 3) := by decide +kernel
theorem dX7_valueFor_79 : decode cX7_valueFor 79 = .ok (.iinc 3 1, 3) := by decide +kernel
theorem dX7_valueFor_82 : decode cX7_valueFor 82 = .ok (.goto (-80), 3) := by decide +kernel
theorem dX7_valueFor_60 : decode cX7_valueFor 60 = .ok (.aload_n 0, 1) := by decide +kernel
theorem dX7_valueFor_61 : decode cX7_valueFor 61 = .ok (.aload_n 0, 1) := by decide +kernel
theorem dX7_valueFor_62 : decode cX7_valueFor 62 = .ok (.getfield 17, 3) := by decide +kernel
theorem dX7_valueFor_65 : decode cX7_valueFor 65 = .ok (.iload_n 3, 1) := by decide +kernel
theorem dX7_valueFor_66 : decode cX7_valueFor 66 = .ok (.iaload, 1) := by decide +kernel
theorem dX7_valueFor_67 : decode cX7_valueFor 67 = .ok (.aload_n 0, 1) := by decide +kernel
theorem dX7_valueFor_68 : decode cX7_valueFor 68 = .ok (.getfield 20, 3) := by decide +kernel
theorem dX7_valueFor_71 : decode cX7_valueFor 71 = .ok (.iload_n 3, 1) := by decide +kernel
theorem dX7_valueFor_72 : decode cX7_valueFor 72 = .ok (.iaload, 1) := by decide +kernel
theorem dX7_valueFor_73 : decode cX7_valueFor 73 = .ok (.aload_n 1, 1) := by decide +kernel
theorem dX7_valueFor_74 : decode cX7_valueFor 74 = .ok (.aload_n 2, 1) := by decide +kernel
theorem dX7_valueFor_75 : decode cX7_valueFor 75 = .ok (.invokevirtual 86, 3) := by decide +kernel
theorem dX7_valueFor_78 : decode cX7_valueFor 78 = .ok (.lreturn, 1) := by decide +kernel
theorem dX7_valueFor_25 : decode cX7_valueFor 25 = .ok (.iconst 1, 1) := by decide +kernel
theorem dX7_valueFor_26 : decode cX7_valueFor 26 = .ok (.goto 4, 3) := by decide +kernel
theorem mv_X7_work : MV RX7 yX7_work cX7_work 8 (some .long) 4 := ⟨mw_4_129, mp_2_11, mw_1_12, mw_4_130, ⟨rfl, by decide, by decide, by decide +kernel⟩⟩
set_option maxHeartbeats 4000000 in
set_option maxRecDepth 100000 in
theorem cy_X7_valueFor (l : Launch) (D : va_G) (cA : Nat → ClassId) (L : List Nat) (T : Nat → Nat) (r : Rg) (hG : GR L T r) (hL : L.Nodup) (σ : Sg) (ρ : Lg) (hW : WT L ry T σ) (sz : Nat) (h0 : Nat) (mh0 : h0 ∈ L) (th0 : T h0 = 7) (h1 : Nat) (mh1 : h1 ∈ L) (th1 : T h1 = 39) (h2 : Nat) (mh2 : h2 ∈ L) (th2 : T h2 = 40) : Met l yX7_valueFor (.code yX7_valueFor cX7_valueFor 5 (some .long) :: wsA) ({ frames := 2, cells := 0, slots := 0, locals := 51 }) (PR D cA L T r σ ρ sz [.ref h0, .ref h1, .ref h2]) (QL D cA L T r ry ([] : List (Nat × Nat)) σ sz (fun x σ1 => True)) 0 0 (dm L sz) := by
  refine Met.ofW (cc := cX7_valueFor) (maxL := 5) (ret := (some .long)) (by decide) rfl ?_
  intro p e s m args below meth c s₁ B hml hv
  obtain ⟨rfl, hsz, hP, hK, hN⟩ := hv
  have hx := B.exec
  have hb := B.bytes
  have hr := B.returns
  have hts : ∀ w ∈ wsA, w.before _ s = true := fun w h => atoms_spec (ws := .code yX7_valueFor cX7_valueFor 5 (some .long) :: wsA) B.pre w (List.mem_cons_of_mem _ h)
  have hown : s.vm.findClass RX7 = some m.cls := findClass_of_methodNamed B.named
  subst hsz
  have hLA : LA (dm L s.heap.size) L := ⟨hL, fun a h => Or.inl h⟩
  have hA : ∀ q : Nat, s.heap.size ≤ q → dm L s.heap.size q := fun q h => Or.inr h
  have hS : va_S (dm L s.heap.size) s.heap s.heap [] := va_S.rf
  have hB : TS D cA L T r ry ([] : List (Nat × Nat)) σ σ ρ s.heap := ⟨hP, hW, FR.rf⟩
  have hl := lv_entry ([.ref h0, .ref h1, .ref h2]) (n := 5) (Nat.le_of_ble_eq_true rfl)
  rw [lg_entry_eq]
  generalize (lg_sl ([.ref h0, .ref h1, .ref h2]) ++ List.replicate (5 - (lg_sl ([.ref h0, .ref h1, .ref h2])).length) Slot.unset).toArray = ls at hl ⊢
  have hl : lv_has ls 5 [(0, .ref h0), (1, .ref h1), (2, .ref h2)] := hl
  refine lv_iconst (v := 0) hx hb dX7_valueFor_0 (by decide) ?_
  refine lv_istore_n (lv' := [(3, .int 0), (0, .ref h0), (1, .ref h1), (2, .ref h2)]) hx hb dX7_valueFor_1 rfl hl (by decide) rfl (fun ls hl => ?_)
  refine w_loop (α := Int32 × Sg × Lg) (fun (i_1, σ_2, ρ_3) H locs ls => 0 ≤ i_1.toInt ∧ i_1.toInt ≤ 12 ∧ TS D cA L T r ry ([] : List (Nat × Nat)) σ σ_2 ρ_3 H ∧ va_S (dm L s.heap.size) s.heap H locs ∧ lv_has ls 5 [(3, .int i_1), (0, .ref h0), (1, .ref h1), (2, .ref h2)]) (fun (i_1, σ_2, ρ_3) => (12 - i_1.toInt).toNat) ?_ ⟨0, σ, ρ⟩ ⟨(by decide), (by decide), hB, hS, lv_sub hl [0, 1, 2, 3] rfl⟩
  rintro ⟨i_1, σ_2, ρ_3⟩ H locs ls ⟨li_1, ui_1, hB, hS, hl⟩ ih_4
  refine lv_iload_n hx hb dX7_valueFor_2 rfl (lv_at hl 0 rfl) ?_
  refine lv_aload_n hx hb dX7_valueFor_3 rfl (lv_at hl 1 rfl) ?_
  refine t_gi hx hb hts hown hK hB mh0 th0 fi_7_4 rfl mw_2_186 dX7_valueFor_4 (fun x_5 ex_5 lx_5 ux_5 => ?_)
  refine lv_icmp_ge (tgt := 85) hx hb dX7_valueFor_7 (by decide) (fun c_6 => ?_) (fun c_6 => ?_)
  · skip
    have uc_6 := j_le c_6
    refine lv_lconst (v := 0) hx hb dX7_valueFor_85 (by decide) ?_
    exact W.lret (v := 0) hx hb hr (fun t ht hW => ⟨⟨0, (σ_2, ρ_3), rfl, ⟨hB.2.1, hB.2.2, trivial⟩, (show TP D cA L T r σ_2 ρ_3 t.heap from by rw [ht]; exact hB.1)⟩, hS.F ht⟩) hS.2.2 dX7_valueFor_86
  · skip
    have uc_6 := j_nle c_6
    refine lv_aload_n hx hb dX7_valueFor_10 rfl (lv_at hl 1 rfl) ?_
    refine t_gr hx hb hts hown hK hG hB mh0 th0 fq_7_2 rfl mw_2_184 dX7_valueFor_11 (fun b_7 hb_7 mb_7 tb_7 => ?_)
    refine lv_iload_n hx hb dX7_valueFor_14 rfl (lv_at hl 0 rfl) ?_
    refine t_ai hx hb hK hB mb_7 tb_7 ai_43 (fun _ => rfl) (i_in (by omega) (by omega)) dX7_valueFor_15 (fun x_8 ex_8 lx_8 ux_8 => ?_)
    refine lv_aload_n hx hb dX7_valueFor_16 rfl (lv_at hl 1 rfl) ?_
    refine t_gr hx hb hts hown hK hG hB mh0 th0 fq_7_3 rfl mw_2_185 dX7_valueFor_17 (fun b_9 hb_9 mb_9 tb_9 => ?_)
    refine lv_iload_n hx hb dX7_valueFor_20 rfl (lv_at hl 0 rfl) ?_
    refine t_ai hx hb hK hB mb_9 tb_9 ai_44 (fun _ => rfl) (i_in (by omega) (by omega)) dX7_valueFor_21 (fun x_10 ex_10 lx_10 ux_10 => ?_)
    refine lv_icmp_ne (tgt := 29) hx hb dX7_valueFor_22 (by decide) (fun c_11 => ?_) (fun c_11 => ?_)
    · skip
      have uc_11 := j_ne c_11
      refine lv_iconst (v := 0) hx hb dX7_valueFor_29 (by decide) ?_
      refine lv_istore (lv' := [(4, .int 0), (3, .int i_1), (0, .ref h0), (1, .ref h1), (2, .ref h2)]) hx hb dX7_valueFor_30 hl (by decide) rfl (fun ls hl => ?_)
      refine lv_iload hx hb dX7_valueFor_32 (lv_at hl 0 rfl) ?_
      refine lv_if_ne (tgt := 60) hx hb dX7_valueFor_34 (by decide) (fun c9 => absurd (by decide) c9) (fun _ => ?_)
      refine lv_aload_n hx hb dX7_valueFor_37 rfl (lv_at hl 2 rfl) ?_
      refine lv_aload_n hx hb dX7_valueFor_38 rfl (lv_at hl 2 rfl) ?_
      refine t_gk hx hb hts hown hK hB mh0 th0 fq_7_2 hb_7 mw_2_184 dX7_valueFor_39 ?_
      refine lv_iload_n hx hb dX7_valueFor_42 rfl (lv_at hl 1 rfl) ?_
      refine t_ai hx hb hK hB mb_7 tb_7 ai_43 (fun _ => rfl) (i_in (by omega) (by omega)) dX7_valueFor_43 (fun x_12 ex_12 lx_12 ux_12 => ?_)
      have qx_12 : x_12 = x_8 := ex_12.trans ex_8.symm
      have qx_12 := qx_12.symm
      subst qx_12
      refine lv_aload_n hx hb dX7_valueFor_44 rfl (lv_at hl 2 rfl) ?_
      refine t_gk hx hb hts hown hK hB mh0 th0 fq_7_3 hb_9 mw_2_185 dX7_valueFor_45 ?_
      refine lv_iload_n hx hb dX7_valueFor_48 rfl (lv_at hl 1 rfl) ?_
      refine t_ai hx hb hK hB mb_9 tb_9 ai_44 (fun _ => rfl) (i_in (by omega) (by omega)) dX7_valueFor_49 (fun x_13 ex_13 lx_13 ux_13 => ?_)
      have qx_13 : x_13 = x_10 := ex_13.trans ex_10.symm
      have qx_13 := qx_13.symm
      subst qx_13
      refine lv_aload_n hx hb dX7_valueFor_50 rfl (lv_at hl 3 rfl) ?_
      refine lv_aload_n hx hb dX7_valueFor_51 rfl (lv_at hl 4 rfl) ?_
      refine t_cl (va_runV (As := [.int x_8, .int x_10, .ref h1, .ref h2]) (rest := []) ⟨hx, hb, hml, hown, hts⟩ (cy_X7_work l D cA L T r hG hLA.1 σ_2 ρ_3 hB.2.1 _ h0 mh0 th0 x_8 x_10 h1 mh1 th1 h2 mh2 th2 (by first | omega | decide) (by first | omega | decide) (by first | omega | decide)) (cV hts mv_X7_work mw_4_127 rfl rfl ⟨Nat.le_of_ble_eq_true rfl, Nat.le_of_ble_eq_true rfl⟩) (pV hB.1 hK hN mh0 th0 (show shp cA 7 _ _ _ = .inr (7, Fs7 _ _ _) from rfl) rfl) rfl rfl hl.1 rfl (lv_room (Nat.le_of_ble_eq_true rfl)) dX7_valueFor_52 ⟨Nat.le_of_ble_eq_true rfl, Nat.le_of_ble_eq_true rfl⟩) hLA hA hB hS (by decide) (fun y_16 σ_14 ρ_15 H locs hB fσ_14 pσ_14 hS => ?_)
      have qσ_14 := FR.nil fσ_14
      subst qσ_14
      refine lv_lconst (v := 0) hx hb dX7_valueFor_55 (by decide) ?_
      refine W.lcmp hx hb dX7_valueFor_56 ?_
      refine lv_if_eq (tgt := 79) hx hb dX7_valueFor_57 (by decide) (fun c_17 => ?_) (fun c_17 => ?_)
      · skip
        have uc_17 := (lg_cmp_eq _ _).mp c_17
        obtain ⟨x_18, ex_18⟩ : ∃ y : Int32, y = i_1 + 1 := ⟨_, rfl⟩
        have vx_18 := b_add (rfl : i_1.toInt = _) (by decide : (1 : Int32).toInt = 1) ex_18 (by omega) (by omega)
        refine lv_iinc (v := x_18) (lv' := [(3, .int x_18), (4, .int 0), (0, .ref h0), (1, .ref h1), (2, .ref h2)]) hx hb dX7_valueFor_79 hl (k := 1) rfl (by rw [ex_18]; rfl) (by decide) rfl (fun ls hl => ?_)
        refine lv_goto (tgt := 2) hx hb dX7_valueFor_82 (by decide) ?_
        exact ih_4 ⟨x_18, σ_2, ρ_15⟩ _ _ _ ⟨(by omega), (by omega), hB, hS, lv_sub hl [0, 2, 3, 4] rfl⟩ (by show (12 - x_18.toInt).toNat < (12 - i_1.toInt).toNat; omega)
      · skip
        have uc_17 := mt (lg_cmp_eq _ _).mpr c_17
        refine lv_aload_n hx hb dX7_valueFor_60 rfl (lv_at hl 2 rfl) ?_
        refine lv_aload_n hx hb dX7_valueFor_61 rfl (lv_at hl 2 rfl) ?_
        refine t_gr hx hb hts hown hK hG hB mh0 th0 fq_7_1 rfl mw_2_183 dX7_valueFor_62 (fun b_19 hb_19 mb_19 tb_19 => ?_)
        refine lv_iload_n hx hb dX7_valueFor_65 rfl (lv_at hl 1 rfl) ?_
        refine t_ai hx hb hK hB mb_19 tb_19 ai_42 (fun _ => rfl) (i_in (by omega) (by omega)) dX7_valueFor_66 (fun x_20 ex_20 lx_20 ux_20 => ?_)
        refine lv_aload_n hx hb dX7_valueFor_67 rfl (lv_at hl 2 rfl) ?_
        refine t_gk hx hb hts hown hK hB mh0 th0 fq_7_2 hb_7 mw_2_184 dX7_valueFor_68 ?_
        refine lv_iload_n hx hb dX7_valueFor_71 rfl (lv_at hl 1 rfl) ?_
        refine t_ai hx hb hK hB mb_7 tb_7 ai_43 (fun _ => rfl) (i_in (by omega) (by omega)) dX7_valueFor_72 (fun x_21 ex_21 lx_21 ux_21 => ?_)
        have qx_21 : x_21 = x_8 := ex_21.trans ex_8.symm
        have qx_21 := qx_21.symm
        subst qx_21
        refine lv_aload_n hx hb dX7_valueFor_73 rfl (lv_at hl 3 rfl) ?_
        refine lv_aload_n hx hb dX7_valueFor_74 rfl (lv_at hl 4 rfl) ?_
        refine t_cl (va_runV (As := [.int x_20, .int x_8, .ref h1, .ref h2]) (rest := []) ⟨hx, hb, hml, hown, hts⟩ (cy_X7_work l D cA L T r hG hLA.1 σ_2 ρ_15 hB.2.1 _ h0 mh0 th0 x_20 x_8 h1 mh1 th1 h2 mh2 th2 (by first | omega | decide) (by first | omega | decide) (by first | omega | decide)) (cV hts mv_X7_work mw_4_127 rfl rfl ⟨Nat.le_of_ble_eq_true rfl, Nat.le_of_ble_eq_true rfl⟩) (pV hB.1 hK hN mh0 th0 (show shp cA 7 _ _ _ = .inr (7, Fs7 _ _ _) from rfl) rfl) rfl rfl hl.1 rfl (lv_room (Nat.le_of_ble_eq_true rfl)) dX7_valueFor_75 ⟨Nat.le_of_ble_eq_true rfl, Nat.le_of_ble_eq_true rfl⟩) hLA hA hB hS (by decide) (fun y_24 σ_22 ρ_23 H locs hB fσ_22 pσ_22 hS => ?_)
        have qσ_22 := FR.nil fσ_22
        subst qσ_22
        exact W.lret (v := y_24) hx hb hr (fun t ht hW => ⟨⟨y_24, (σ_2, ρ_23), rfl, ⟨hB.2.1, hB.2.2, trivial⟩, (show TP D cA L T r σ_2 ρ_23 t.heap from by rw [ht]; exact hB.1)⟩, hS.F ht⟩) hS.2.2 dX7_valueFor_78
    · skip
      have uc_11 := j_eq c_11
      refine lv_iconst (v := 1) hx hb dX7_valueFor_25 (by decide) ?_
      refine lv_goto (tgt := 30) hx hb dX7_valueFor_26 (by decide) ?_
      refine lv_istore (lv' := [(4, .int 1), (3, .int i_1), (0, .ref h0), (1, .ref h1), (2, .ref h2)]) hx hb dX7_valueFor_30 hl (by decide) rfl (fun ls hl => ?_)
      refine lv_iload hx hb dX7_valueFor_32 (lv_at hl 0 rfl) ?_
      refine lv_if_ne (tgt := 60) hx hb dX7_valueFor_34 (by decide) (fun _ => ?_) (fun c9 => absurd c9 (by decide))
      refine lv_aload_n hx hb dX7_valueFor_60 rfl (lv_at hl 2 rfl) ?_
      refine lv_aload_n hx hb dX7_valueFor_61 rfl (lv_at hl 2 rfl) ?_
      refine t_gr hx hb hts hown hK hG hB mh0 th0 fq_7_1 rfl mw_2_183 dX7_valueFor_62 (fun b_25 hb_25 mb_25 tb_25 => ?_)
      refine lv_iload_n hx hb dX7_valueFor_65 rfl (lv_at hl 1 rfl) ?_
      refine t_ai hx hb hK hB mb_25 tb_25 ai_42 (fun _ => rfl) (i_in (by omega) (by omega)) dX7_valueFor_66 (fun x_26 ex_26 lx_26 ux_26 => ?_)
      refine lv_aload_n hx hb dX7_valueFor_67 rfl (lv_at hl 2 rfl) ?_
      refine t_gk hx hb hts hown hK hB mh0 th0 fq_7_2 hb_7 mw_2_184 dX7_valueFor_68 ?_
      refine lv_iload_n hx hb dX7_valueFor_71 rfl (lv_at hl 1 rfl) ?_
      refine t_ai hx hb hK hB mb_7 tb_7 ai_43 (fun _ => rfl) (i_in (by omega) (by omega)) dX7_valueFor_72 (fun x_27 ex_27 lx_27 ux_27 => ?_)
      have qx_27 : x_27 = x_8 := ex_27.trans ex_8.symm
      have qx_27 := qx_27.symm
      subst qx_27
      refine lv_aload_n hx hb dX7_valueFor_73 rfl (lv_at hl 3 rfl) ?_
      refine lv_aload_n hx hb dX7_valueFor_74 rfl (lv_at hl 4 rfl) ?_
      refine t_cl (va_runV (As := [.int x_26, .int x_8, .ref h1, .ref h2]) (rest := []) ⟨hx, hb, hml, hown, hts⟩ (cy_X7_work l D cA L T r hG hLA.1 σ_2 ρ_3 hB.2.1 _ h0 mh0 th0 x_26 x_8 h1 mh1 th1 h2 mh2 th2 (by first | omega | decide) (by first | omega | decide) (by first | omega | decide)) (cV hts mv_X7_work mw_4_127 rfl rfl ⟨Nat.le_of_ble_eq_true rfl, Nat.le_of_ble_eq_true rfl⟩) (pV hB.1 hK hN mh0 th0 (show shp cA 7 _ _ _ = .inr (7, Fs7 _ _ _) from rfl) rfl) rfl rfl hl.1 rfl (lv_room (Nat.le_of_ble_eq_true rfl)) dX7_valueFor_75 ⟨Nat.le_of_ble_eq_true rfl, Nat.le_of_ble_eq_true rfl⟩) hLA hA hB hS (by decide) (fun y_30 σ_28 ρ_29 H locs hB fσ_28 pσ_28 hS => ?_)
      have qσ_28 := FR.nil fσ_28
      subst qσ_28
      exact W.lret (v := y_30) hx hb hr (fun t ht hW => ⟨⟨y_30, (σ_2, ρ_29), rfl, ⟨hB.2.1, hB.2.2, trivial⟩, (show TP D cA L T r σ_2 ρ_29 t.heap from by rw [ht]; exact hB.1)⟩, hS.F ht⟩) hS.2.2 dX7_valueFor_78
theorem mw_1_178 : (.fieldLink RX6 27 "HillBends$Hill" "bends" "I" : Cond) ∈ wsA := wsA_t (List.mem_append_left _ (List.mem_of_getElem? (l := tables_1_1) (i := 178) rfl)) rfl
theorem mw_4_134 : (.methodLink RX6 47 yJ9_min_7cf53 : Cond) ∈ wsA := wsA_t (List.mem_append_right _ (List.mem_append_right _ (List.mem_append_right _ (List.mem_append_left _ (List.mem_of_getElem? (l := tables_1_4) (i := 134) rfl))))) rfl
theorem mw_4_120 : (.instanceMethod yX6_fillWords : Cond) ∈ wsA := wsA_t (List.mem_append_right _ (List.mem_append_right _ (List.mem_append_right _ (List.mem_append_left _ (List.mem_of_getElem? (l := tables_1_4) (i := 120) rfl))))) rfl
theorem mp_2_10 : (.selects RX6 yX6_fillWords yX6_fillWords : Cond) ∈ wsA := wsA_p (q := (yX6_fillWords, 6)) (List.mem_append_right _ (List.mem_append_left _ (List.mem_of_getElem? (l := lw_privs_2) (i := 10) rfl)))
theorem mw_1_8 : (.initialized RX6 : Cond) ∈ wsA := wsA_t (List.mem_append_left _ (List.mem_of_getElem? (l := tables_1_1) (i := 8) rfl)) rfl
theorem mw_4_121 : (.code yX6_fillWords cX6_fillWords 9 none : Cond) ∈ wsA := wsA_t (List.mem_append_right _ (List.mem_append_right _ (List.mem_append_right _ (List.mem_append_left _ (List.mem_of_getElem? (l := tables_1_4) (i := 121) rfl))))) rfl
theorem mw_4_118 : (.methodLink RX6 36 yX6_fillWords : Cond) ∈ wsA := wsA_t (List.mem_append_right _ (List.mem_append_right _ (List.mem_append_right _ (List.mem_append_left _ (List.mem_of_getElem? (l := tables_1_4) (i := 118) rfl))))) rfl
theorem mw_2_68 : (.fieldLink RX6 17 "HillBends$Nights" "stack" "[J" : Cond) ∈ wsA := wsA_t (List.mem_append_right _ (List.mem_append_left _ (List.mem_of_getElem? (l := tables_1_2) (i := 68) rfl))) rfl
theorem mw_4_124 : (.instanceMethod yX7_valueFor : Cond) ∈ wsA := wsA_t (List.mem_append_right _ (List.mem_append_right _ (List.mem_append_right _ (List.mem_append_left _ (List.mem_of_getElem? (l := tables_1_4) (i := 124) rfl))))) rfl
theorem mw_4_125 : (.selects RX7 yX7_valueFor yX7_valueFor : Cond) ∈ wsA := wsA_t (List.mem_append_right _ (List.mem_append_right _ (List.mem_append_right _ (List.mem_append_left _ (List.mem_of_getElem? (l := tables_1_4) (i := 125) rfl))))) rfl
theorem mw_4_126 : (.code yX7_valueFor cX7_valueFor 5 (some .long) : Cond) ∈ wsA := wsA_t (List.mem_append_right _ (List.mem_append_right _ (List.mem_append_right _ (List.mem_append_left _ (List.mem_of_getElem? (l := tables_1_4) (i := 126) rfl))))) rfl
theorem mw_4_123 : (.methodLink RX6 40 yX7_valueFor : Cond) ∈ wsA := wsA_t (List.mem_append_right _ (List.mem_append_right _ (List.mem_append_right _ (List.mem_append_left _ (List.mem_of_getElem? (l := tables_1_4) (i := 123) rfl))))) rfl
theorem dX6_pass_0 : decode cX6_pass 0 = .ok (.iconst 0, 1) := by decide +kernel
theorem dX6_pass_1 : decode cX6_pass 1 = .ok (.istore 4, 2) := by decide +kernel
theorem dX6_pass_3 : decode cX6_pass 3 = .ok (.iconst 0, 1) := by decide +kernel
theorem dX6_pass_4 : decode cX6_pass 4 = .ok (.istore 5, 2) := by decide +kernel
theorem dX6_pass_6 : decode cX6_pass 6 = .ok (.iload 5, 2) := by decide +kernel
theorem dX6_pass_8 : decode cX6_pass 8 = .ok (.aload_n 1, 1) := by decide +kernel
theorem dX6_pass_9 : decode cX6_pass 9 = .ok (.getfield 27, 3) := by decide +kernel
theorem dX6_pass_12 : decode cX6_pass 12 = .ok (.if_icmp .ge 81, 3) := by decide +kernel
theorem dX6_pass_93 : decode cX6_pass 93 = .ok (.aload_n 2, 1) := by decide +kernel
theorem dX6_pass_94 : decode cX6_pass 94 = .ok (.iload 4, 2) := by decide +kernel
theorem dX6_pass_96 : decode cX6_pass 96 = .ok (.putfield 33, 3) := by decide +kernel
theorem dX6_pass_99 : decode cX6_pass 99 = .ok (.aload_n 2, 1) := by decide +kernel
theorem dX6_pass_100 : decode cX6_pass 100 = .ok (.sipush 999, 3) := by decide +kernel
theorem dX6_pass_103 : decode cX6_pass 103 = .ok (.aload_n 2, 1) := by decide +kernel
theorem dX6_pass_104 : decode cX6_pass 104 = .ok (.getfield 44, 3) := by decide +kernel
theorem dX6_pass_107 : decode cX6_pass 107 = .ok (.iconst 1, 1) := by decide +kernel
theorem dX6_pass_108 : decode cX6_pass 108 = .ok (.iadd, 1) := by decide +kernel
theorem dX6_pass_109 : decode cX6_pass 109 = .ok (.invokestatic 47, 3) := by decide +kernel
theorem dX6_pass_112 : decode cX6_pass 112 = .ok (.putfield 44, 3) := by decide +kernel
theorem dX6_pass_115 : decode cX6_pass 115 = .ok (.return_, 1) := by decide +kernel
theorem dX6_pass_15 : decode cX6_pass 15 = .ok (.aload_n 3, 1) := by decide +kernel
theorem dX6_pass_16 : decode cX6_pass 16 = .ok (.ifnonnull 25, 3) := by decide +kernel
theorem dX6_pass_41 : decode cX6_pass 41 = .ok (.aload_n 0, 1) := by decide +kernel
theorem dX6_pass_42 : decode cX6_pass 42 = .ok (.aload_n 1, 1) := by decide +kernel
theorem dX6_pass_43 : decode cX6_pass 43 = .ok (.aload_n 2, 1) := by decide +kernel
theorem dX6_pass_44 : decode cX6_pass 44 = .ok (.iload 5, 2) := by decide +kernel
theorem dX6_pass_46 : decode cX6_pass 46 = .ok (.invokevirtual 36, 3) := by decide +kernel
theorem dX6_pass_49 : decode cX6_pass 49 = .ok (.aload_n 3, 1) := by decide +kernel
theorem dX6_pass_50 : decode cX6_pass 50 = .ok (.aload_n 0, 1) := by decide +kernel
theorem dX6_pass_51 : decode cX6_pass 51 = .ok (.getfield 11, 3) := by decide +kernel
theorem dX6_pass_54 : decode cX6_pass 54 = .ok (.aload_n 0, 1) := by decide +kernel
theorem dX6_pass_55 : decode cX6_pass 55 = .ok (.getfield 17, 3) := by decide +kernel
theorem dX6_pass_58 : decode cX6_pass 58 = .ok (.invokevirtual 40, 3) := by decide +kernel
theorem dX6_pass_61 : decode cX6_pass 61 = .ok (.lconst 0, 1) := by decide +kernel
theorem dX6_pass_62 : decode cX6_pass 62 = .ok (.lcmp, 1) := by decide +kernel
theorem dX6_pass_63 : decode cX6_pass 63 = .ok (.ifCond .gt 7, 3) := by decide +kernel
theorem dX6_pass_70 : decode cX6_pass 70 = .ok (.iconst 0, 1) := by decide +kernel
theorem dX6_pass_71 : decode cX6_pass 71 = .ok (.istore 6, 2) := by decide +kernel
theorem dX6_pass_73 : decode cX6_pass 73 = .ok (.iload 6, 2) := by decide +kernel
theorem dX6_pass_75 : decode cX6_pass 75 = .ok (.ifCond .eq 12, 3) := by decide +kernel
theorem dX6_pass_87 : decode cX6_pass 87 = .ok (.iinc 5 1, 3) := by decide +kernel
theorem dX6_pass_90 : decode cX6_pass 90 = .ok (.goto (-84), 3) := by decide +kernel
theorem dX6_pass_66 : decode cX6_pass 66 = .ok (.iconst 1, 1) := by decide +kernel
theorem dX6_pass_67 : decode cX6_pass 67 = .ok (.goto 4, 3) := by decide +kernel
theorem dX6_pass_78 : decode cX6_pass 78 = .ok (.iload 4, 2) := by decide +kernel
theorem dX6_pass_80 : decode cX6_pass 80 = .ok (.iconst 1, 1) := by decide +kernel
theorem dX6_pass_81 : decode cX6_pass 81 = .ok (.iload 5, 2) := by decide +kernel
theorem dX6_pass_83 : decode cX6_pass 83 = .ok (.ishl, 1) := by decide +kernel
theorem dX6_pass_84 : decode cX6_pass 84 = .ok (.ior, 1) := by decide +kernel
theorem dX6_pass_85 : decode cX6_pass 85 = .ok (.istore 4, 2) := by decide +kernel
theorem mv_X6_fillWords : MV RX6 yX6_fillWords cX6_fillWords 9 none 3 := ⟨mw_4_120, mp_2_10, mw_1_8, mw_4_121, ⟨rfl, by decide, by decide, by decide +kernel⟩⟩
theorem mv_X7_valueFor : MV RX7 yX7_valueFor cX7_valueFor 5 (some .long) 2 := ⟨mw_4_124, mw_4_125, mw_1_12, mw_4_126, ⟨rfl, by decide, by decide, by decide +kernel⟩⟩
set_option maxHeartbeats 4000000 in
set_option maxRecDepth 100000 in
theorem cy_X6_pass_8_7 (l : Launch) (D : va_G) (cA : Nat → ClassId) (L : List Nat) (T : Nat → Nat) (r : Rg) (hG : GR L T r) (hL : L.Nodup) (σ : Sg) (ρ : Lg) (hW : WT L ry T σ) (sz : Nat) (h0 : Nat) (mh0 : h0 ∈ L) (th0 : T h0 = 6) (h1 : Nat) (mh1 : h1 ∈ L) (th1 : T h1 = 3) (h2 : Nat) (mh2 : h2 ∈ L) (th2 : T h2 = 8) (h3 : Nat) (mh3 : h3 ∈ L) (th3 : T h3 = 7) : Met l yX6_pass (.code yX6_pass cX6_pass 7 none :: wsA) ({ frames := 3, cells := 0, slots := 0, locals := 75 }) (PR D cA L T r σ ρ sz [.ref h0, .ref h1, .ref h2, .ref h3]) (QV D cA L T r ry [(8, 6), (8, 7)] σ sz (fun σ1 => True)) 0 0 (dm L sz) := by
  refine Met.ofW (cc := cX6_pass) (maxL := 7) (ret := none) (by decide) rfl ?_
  intro p e s m args below meth c s₁ B hml hv
  obtain ⟨rfl, hsz, hP, hK, hN⟩ := hv
  have hx := B.exec
  have hb := B.bytes
  have hr := B.returns
  have hts : ∀ w ∈ wsA, w.before _ s = true := fun w h => atoms_spec (ws := .code yX6_pass cX6_pass 7 none :: wsA) B.pre w (List.mem_cons_of_mem _ h)
  have hown : s.vm.findClass RX6 = some m.cls := findClass_of_methodNamed B.named
  subst hsz
  have hLA : LA (dm L s.heap.size) L := ⟨hL, fun a h => Or.inl h⟩
  have hA : ∀ q : Nat, s.heap.size ≤ q → dm L s.heap.size q := fun q h => Or.inr h
  have hS : va_S (dm L s.heap.size) s.heap s.heap [] := va_S.rf
  have hB : TS D cA L T r ry [(8, 6), (8, 7)] σ σ ρ s.heap := ⟨hP, hW, FR.rf⟩
  have hl := lv_entry ([.ref h0, .ref h1, .ref h2, .ref h3]) (n := 7) (Nat.le_of_ble_eq_true rfl)
  rw [lg_entry_eq]
  generalize (lg_sl ([.ref h0, .ref h1, .ref h2, .ref h3]) ++ List.replicate (7 - (lg_sl ([.ref h0, .ref h1, .ref h2, .ref h3])).length) Slot.unset).toArray = ls at hl ⊢
  have hl : lv_has ls 7 [(0, .ref h0), (1, .ref h1), (2, .ref h2), (3, .ref h3)] := hl
  refine lv_iconst (v := 0) hx hb dX6_pass_0 (by decide) ?_
  refine lv_istore (lv' := [(4, .int 0), (0, .ref h0), (1, .ref h1), (2, .ref h2), (3, .ref h3)]) hx hb dX6_pass_1 hl (by decide) rfl (fun ls hl => ?_)
  refine lv_iconst (v := 0) hx hb dX6_pass_3 (by decide) ?_
  refine lv_istore (lv' := [(5, .int 0), (4, .int 0), (0, .ref h0), (1, .ref h1), (2, .ref h2), (3, .ref h3)]) hx hb dX6_pass_4 hl (by decide) rfl (fun ls hl => ?_)
  refine w_loop (α := Int32 × Int32 × Sg × Lg) (fun (i_1, i_2, σ_3, ρ_4) H locs ls => 0 ≤ i_2.toInt ∧ i_2.toInt ≤ 8 ∧ TS D cA L T r ry [(8, 6), (8, 7)] σ σ_3 ρ_4 H ∧ va_S (dm L s.heap.size) s.heap H locs ∧ lv_has ls 7 [(5, .int i_2), (4, .int i_1), (0, .ref h0), (1, .ref h1), (2, .ref h2), (3, .ref h3)]) (fun (i_1, i_2, σ_3, ρ_4) => (8 - i_2.toInt).toNat) ?_ ⟨0, 0, σ, ρ⟩ ⟨(by decide), (by decide), hB, hS, lv_sub hl [0, 1, 2, 3, 4, 5] rfl⟩
  rintro ⟨i_1, i_2, σ_3, ρ_4⟩ H locs ls ⟨li_2, ui_2, hB, hS, hl⟩ ih_5
  refine lv_iload hx hb dX6_pass_6 (lv_at hl 0 rfl) ?_
  refine lv_aload_n hx hb dX6_pass_8 rfl (lv_at hl 3 rfl) ?_
  refine t_gi hx hb hts hown hK hB mh1 th1 fi_3_9 rfl mw_1_178 dX6_pass_9 (fun x_6 ex_6 lx_6 ux_6 => ?_)
  refine lv_icmp_ge (tgt := 93) hx hb dX6_pass_12 (by decide) (fun c_7 => ?_) (fun c_7 => ?_)
  · skip
    have uc_7 := j_le c_7
    refine lv_aload_n hx hb dX6_pass_93 rfl (lv_at hl 4 rfl) ?_
    refine lv_iload hx hb dX6_pass_94 (lv_at hl 1 rfl) ?_
    refine t_pi hx hb hts hown hK hLA hB hS mh2 th2 fi_8_6 rfl rfl rfl (i_lo _) (i_hi _) (Or.inl (by decide)) mw_1_105 dX6_pass_96 (fun H locs σ_8 eσ_8 hB hS => ?_)
    have k_9 : σ_8 h2 6 = i_1 := by rw [eσ_8]; exact up2_same _ _ _ _
    refine lv_aload_n hx hb dX6_pass_99 rfl (lv_at hl 4 rfl) ?_
    refine lv_sipush (v := 999) hx hb dX6_pass_100 (by decide) ?_
    refine lv_aload_n hx hb dX6_pass_103 rfl (lv_at hl 4 rfl) ?_
    refine t_gi hx hb hts hown hK hB mh2 th2 fi_8_7 rfl mw_1_111 dX6_pass_104 (fun x_10 ex_10 lx_10 ux_10 => ?_)
    refine lv_iconst (v := 1) hx hb dX6_pass_107 (by decide) ?_
    refine lv_iadd hx hb dX6_pass_108 ?_
    refine lv_topi (fun x_11 ex_11 => ?_)
    refine va_mmin hx hb (hml.trans hl.1.symm) hown (hts _ mw_4_134) (hts _ mw_3_123) (hts _ mw_1_18) (hts _ mw_3_124) (Nat.le_of_ble_eq_true rfl) (Nat.le_of_ble_eq_true rfl) (Nat.zero_le _) (Nat.zero_le _) dX6_pass_109 ?_
    refine lv_topi (fun x_12 ex_12 => ?_)
    obtain ⟨lx_12, mx_12, ux_12⟩ := m_min (by decide : (999 : Int32).toInt = 999) (rfl : x_11.toInt = _) ex_12
    refine t_pi hx hb hts hown hK hLA hB hS mh2 th2 fi_8_7 rfl rfl rfl (i_lo _) (i_hi _) (Or.inl (by decide)) mw_1_111 dX6_pass_112 (fun H locs σ_13 eσ_13 hB hS => ?_)
    have k_14 : σ_13 h2 7 = x_12 := by rw [eσ_13]; exact up2_same _ _ _ _
    exact W.vret hx hb hr (fun t ht hW => ⟨⟨(σ_13, ρ_4), rfl, ⟨hB.2.1, hB.2.2, trivial⟩, (show TP D cA L T r σ_13 ρ_4 t.heap from by rw [ht]; exact hB.1)⟩, hS.F ht⟩) hS.2.2 dX6_pass_115
  · skip
    have uc_7 := j_nle c_7
    refine lv_aload_n hx hb dX6_pass_15 rfl (lv_at hl 5 rfl) ?_
    refine lv_ifnonnull (tgt := 41) hx hb dX6_pass_16 (by decide) ?_
    refine lv_aload_n hx hb dX6_pass_41 rfl (lv_at hl 2 rfl) ?_
    refine lv_aload_n hx hb dX6_pass_42 rfl (lv_at hl 3 rfl) ?_
    refine lv_aload_n hx hb dX6_pass_43 rfl (lv_at hl 4 rfl) ?_
    refine lv_iload hx hb dX6_pass_44 (lv_at hl 0 rfl) ?_
    refine t_cv (va_runV (As := [.ref h1, .ref h2, .int i_2]) (rest := []) ⟨hx, hb, hml, hown, hts⟩ (cy_X6_fillWords_8 l D cA L T r hG hLA.1 σ_3 ρ_4 hB.2.1 _ h0 mh0 th0 h1 mh1 th1 h2 mh2 th2 i_2 (by first | omega | decide) (by first | omega | decide)) (cV hts mv_X6_fillWords mw_4_118 rfl rfl ⟨Nat.le_of_ble_eq_true rfl, Nat.le_of_ble_eq_true rfl⟩) (pV hB.1 hK hN mh0 th0 (show shp cA 6 _ _ _ = .inr (6, Fs6 _ _ _) from rfl) rfl) rfl rfl hl.1 rfl (lv_room (Nat.le_of_ble_eq_true rfl)) dX6_pass_46 ⟨Nat.le_of_ble_eq_true rfl, Nat.le_of_ble_eq_true rfl⟩) hLA hA hB hS (by decide) (fun σ_15 ρ_16 H locs hB fσ_15 pσ_15 hS => ?_)
    have qσ_15 := FR.nil fσ_15
    subst qσ_15
    refine lv_aload_n hx hb dX6_pass_49 rfl (lv_at hl 5 rfl) ?_
    refine lv_aload_n hx hb dX6_pass_50 rfl (lv_at hl 2 rfl) ?_
    refine t_gr hx hb hts hown hK hG hB mh0 th0 fq_6_0 rfl mw_2_67 dX6_pass_51 (fun b_18 hb_18 mb_18 tb_18 => ?_)
    refine lv_aload_n hx hb dX6_pass_54 rfl (lv_at hl 2 rfl) ?_
    refine t_gr hx hb hts hown hK hG hB mh0 th0 fq_6_1 rfl mw_2_68 dX6_pass_55 (fun b_19 hb_19 mb_19 tb_19 => ?_)
    refine t_cl (va_runV (As := [.ref b_18, .ref b_19]) (rest := []) ⟨hx, hb, hml, hown, hts⟩ (cy_X7_valueFor l D cA L T r hG hLA.1 σ_3 ρ_16 hB.2.1 _ h3 mh3 th3 b_18 mb_18 tb_18 b_19 mb_19 tb_19) (cV hts mv_X7_valueFor mw_4_123 rfl rfl ⟨Nat.le_of_ble_eq_true rfl, Nat.le_of_ble_eq_true rfl⟩) (pV hB.1 hK hN mh3 th3 (show shp cA 7 _ _ _ = .inr (7, Fs7 _ _ _) from rfl) rfl) rfl rfl hl.1 rfl (lv_room (Nat.le_of_ble_eq_true rfl)) dX6_pass_58 ⟨Nat.le_of_ble_eq_true rfl, Nat.le_of_ble_eq_true rfl⟩) hLA hA hB hS (by decide) (fun y_22 σ_20 ρ_21 H locs hB fσ_20 pσ_20 hS => ?_)
    have qσ_20 := FR.nil fσ_20
    subst qσ_20
    refine lv_lconst (v := 0) hx hb dX6_pass_61 (by decide) ?_
    refine W.lcmp hx hb dX6_pass_62 ?_
    refine lv_if_gt (tgt := 70) hx hb dX6_pass_63 (by decide) (fun c_23 => ?_) (fun c_23 => ?_)
    · skip
      have uc_23 := l_lt (by decide : (0 : Int64).toInt = 0) (rfl : y_22.toInt = _) ((lg_cmp_gt _ _).mp c_23)
      refine lv_iconst (v := 0) hx hb dX6_pass_70 (by decide) ?_
      refine lv_istore (lv' := [(6, .int 0), (5, .int i_2), (4, .int i_1), (0, .ref h0), (1, .ref h1), (2, .ref h2), (3, .ref h3)]) hx hb dX6_pass_71 hl (by decide) rfl (fun ls hl => ?_)
      refine lv_iload hx hb dX6_pass_73 (lv_at hl 0 rfl) ?_
      refine lv_if_eq (tgt := 87) hx hb dX6_pass_75 (by decide) (fun _ => ?_) (fun c9 => absurd (by decide) c9)
      obtain ⟨x_24, ex_24⟩ : ∃ y : Int32, y = i_2 + 1 := ⟨_, rfl⟩
      have vx_24 := b_add (rfl : i_2.toInt = _) (by decide : (1 : Int32).toInt = 1) ex_24 (by omega) (by omega)
      refine lv_iinc (v := x_24) (lv' := [(5, .int x_24), (6, .int 0), (4, .int i_1), (0, .ref h0), (1, .ref h1), (2, .ref h2), (3, .ref h3)]) hx hb dX6_pass_87 hl (k := 1) rfl (by rw [ex_24]; rfl) (by decide) rfl (fun ls hl => ?_)
      refine lv_goto (tgt := 6) hx hb dX6_pass_90 (by decide) ?_
      exact ih_5 ⟨i_1, x_24, σ_3, ρ_21⟩ _ _ _ ⟨(by omega), (by omega), hB, hS, lv_sub hl [0, 2, 3, 4, 5, 6] rfl⟩ (by show (8 - x_24.toInt).toNat < (8 - i_2.toInt).toNat; omega)
    · skip
      have uc_23 := l_nlt (by decide : (0 : Int64).toInt = 0) (rfl : y_22.toInt = _) (mt (lg_cmp_gt _ _).mpr c_23)
      refine lv_iconst (v := 1) hx hb dX6_pass_66 (by decide) ?_
      refine lv_goto (tgt := 71) hx hb dX6_pass_67 (by decide) ?_
      refine lv_istore (lv' := [(6, .int 1), (5, .int i_2), (4, .int i_1), (0, .ref h0), (1, .ref h1), (2, .ref h2), (3, .ref h3)]) hx hb dX6_pass_71 hl (by decide) rfl (fun ls hl => ?_)
      refine lv_iload hx hb dX6_pass_73 (lv_at hl 0 rfl) ?_
      refine lv_if_eq (tgt := 87) hx hb dX6_pass_75 (by decide) (fun c9 => absurd c9 (by decide)) (fun _ => ?_)
      refine lv_iload hx hb dX6_pass_78 (lv_at hl 2 rfl) ?_
      refine lv_iconst (v := 1) hx hb dX6_pass_80 (by decide) ?_
      refine lv_iload hx hb dX6_pass_81 (lv_at hl 1 rfl) ?_
      refine lv_ishl hx hb dX6_pass_83 ?_
      refine lv_topi (fun x_25 ex_25 => ?_)
      refine lv_ior hx hb dX6_pass_84 ?_
      refine lv_topi (fun x_26 ex_26 => ?_)
      refine lv_istore (lv' := [(4, .int x_26), (6, .int 1), (5, .int i_2), (0, .ref h0), (1, .ref h1), (2, .ref h2), (3, .ref h3)]) hx hb dX6_pass_85 hl (by decide) rfl (fun ls hl => ?_)
      obtain ⟨x_27, ex_27⟩ : ∃ y : Int32, y = i_2 + 1 := ⟨_, rfl⟩
      have vx_27 := b_add (rfl : i_2.toInt = _) (by decide : (1 : Int32).toInt = 1) ex_27 (by omega) (by omega)
      refine lv_iinc (v := x_27) (lv' := [(5, .int x_27), (4, .int x_26), (6, .int 1), (0, .ref h0), (1, .ref h1), (2, .ref h2), (3, .ref h3)]) hx hb dX6_pass_87 hl (k := 2) rfl (by rw [ex_27]; rfl) (by decide) rfl (fun ls hl => ?_)
      refine lv_goto (tgt := 6) hx hb dX6_pass_90 (by decide) ?_
      exact ih_5 ⟨x_26, x_27, σ_3, ρ_21⟩ _ _ _ ⟨(by omega), (by omega), hB, hS, lv_sub hl [0, 1, 3, 4, 5, 6] rfl⟩ (by show (8 - x_27.toInt).toNat < (8 - i_2.toInt).toNat; omega)
theorem dX6_pass_19 : decode cX6_pass 19 = .ok (.aload_n 2, 1) := by decide +kernel
theorem dX6_pass_20 : decode cX6_pass 20 = .ok (.getfield 33, 3) := by decide +kernel
theorem dX6_pass_23 : decode cX6_pass 23 = .ok (.iload 5, 2) := by decide +kernel
theorem dX6_pass_25 : decode cX6_pass 25 = .ok (.ishr, 1) := by decide +kernel
theorem dX6_pass_26 : decode cX6_pass 26 = .ok (.iconst 1, 1) := by decide +kernel
theorem dX6_pass_27 : decode cX6_pass 27 = .ok (.iand, 1) := by decide +kernel
theorem dX6_pass_28 : decode cX6_pass 28 = .ok (.ifCond .ne 7, 3) := by decide +kernel
theorem dX6_pass_35 : decode cX6_pass 35 = .ok (.iconst 0, 1) := by decide +kernel
theorem dX6_pass_36 : decode cX6_pass 36 = .ok (.istore 6, 2) := by decide +kernel
theorem dX6_pass_38 : decode cX6_pass 38 = .ok (.goto 35, 3) := by decide +kernel
theorem dX6_pass_31 : decode cX6_pass 31 = .ok (.iconst 1, 1) := by decide +kernel
theorem dX6_pass_32 : decode cX6_pass 32 = .ok (.goto 4, 3) := by decide +kernel
set_option maxHeartbeats 4000000 in
set_option maxRecDepth 100000 in
theorem cy_X6_pass_8_0 (l : Launch) (D : va_G) (cA : Nat → ClassId) (L : List Nat) (T : Nat → Nat) (r : Rg) (hG : GR L T r) (hL : L.Nodup) (σ : Sg) (ρ : Lg) (hW : WT L ry T σ) (sz : Nat) (h0 : Nat) (mh0 : h0 ∈ L) (th0 : T h0 = 6) (h1 : Nat) (mh1 : h1 ∈ L) (th1 : T h1 = 3) (h2 : Nat) (mh2 : h2 ∈ L) (th2 : T h2 = 8) : Met l yX6_pass (.code yX6_pass cX6_pass 7 none :: wsA) ({ frames := 1, cells := 0, slots := 0, locals := 40 }) (PR D cA L T r σ ρ sz [.ref h0, .ref h1, .ref h2, .null]) (QV D cA L T r ry [(8, 6), (8, 7)] σ sz (fun σ1 => True)) 0 0 (dm L sz) := by
  refine Met.ofW (cc := cX6_pass) (maxL := 7) (ret := none) (by decide) rfl ?_
  intro p e s m args below meth c s₁ B hml hv
  obtain ⟨rfl, hsz, hP, hK, hN⟩ := hv
  have hx := B.exec
  have hb := B.bytes
  have hr := B.returns
  have hts : ∀ w ∈ wsA, w.before _ s = true := fun w h => atoms_spec (ws := .code yX6_pass cX6_pass 7 none :: wsA) B.pre w (List.mem_cons_of_mem _ h)
  have hown : s.vm.findClass RX6 = some m.cls := findClass_of_methodNamed B.named
  subst hsz
  have hLA : LA (dm L s.heap.size) L := ⟨hL, fun a h => Or.inl h⟩
  have hA : ∀ q : Nat, s.heap.size ≤ q → dm L s.heap.size q := fun q h => Or.inr h
  have hS : va_S (dm L s.heap.size) s.heap s.heap [] := va_S.rf
  have hB : TS D cA L T r ry [(8, 6), (8, 7)] σ σ ρ s.heap := ⟨hP, hW, FR.rf⟩
  have hl := lv_entry ([.ref h0, .ref h1, .ref h2, .null]) (n := 7) (Nat.le_of_ble_eq_true rfl)
  rw [lg_entry_eq]
  generalize (lg_sl ([.ref h0, .ref h1, .ref h2, .null]) ++ List.replicate (7 - (lg_sl ([.ref h0, .ref h1, .ref h2, .null])).length) Slot.unset).toArray = ls at hl ⊢
  have hl : lv_has ls 7 [(0, .ref h0), (1, .ref h1), (2, .ref h2), (3, .null)] := hl
  refine lv_iconst (v := 0) hx hb dX6_pass_0 (by decide) ?_
  refine lv_istore (lv' := [(4, .int 0), (0, .ref h0), (1, .ref h1), (2, .ref h2), (3, .null)]) hx hb dX6_pass_1 hl (by decide) rfl (fun ls hl => ?_)
  refine lv_iconst (v := 0) hx hb dX6_pass_3 (by decide) ?_
  refine lv_istore (lv' := [(5, .int 0), (4, .int 0), (0, .ref h0), (1, .ref h1), (2, .ref h2), (3, .null)]) hx hb dX6_pass_4 hl (by decide) rfl (fun ls hl => ?_)
  refine w_loop (α := Int32 × Int32 × Sg × Lg) (fun (i_1, i_2, σ_3, ρ_4) H locs ls => 0 ≤ i_2.toInt ∧ i_2.toInt ≤ 8 ∧ TS D cA L T r ry [(8, 6), (8, 7)] σ σ_3 ρ_4 H ∧ va_S (dm L s.heap.size) s.heap H locs ∧ lv_has ls 7 [(5, .int i_2), (4, .int i_1), (0, .ref h0), (1, .ref h1), (2, .ref h2), (3, .null)]) (fun (i_1, i_2, σ_3, ρ_4) => (8 - i_2.toInt).toNat) ?_ ⟨0, 0, σ, ρ⟩ ⟨(by decide), (by decide), hB, hS, lv_sub hl [0, 1, 2, 3, 4, 5] rfl⟩
  rintro ⟨i_1, i_2, σ_3, ρ_4⟩ H locs ls ⟨li_2, ui_2, hB, hS, hl⟩ ih_5
  refine lv_iload hx hb dX6_pass_6 (lv_at hl 0 rfl) ?_
  refine lv_aload_n hx hb dX6_pass_8 rfl (lv_at hl 3 rfl) ?_
  refine t_gi hx hb hts hown hK hB mh1 th1 fi_3_9 rfl mw_1_178 dX6_pass_9 (fun x_6 ex_6 lx_6 ux_6 => ?_)
  refine lv_icmp_ge (tgt := 93) hx hb dX6_pass_12 (by decide) (fun c_7 => ?_) (fun c_7 => ?_)
  · skip
    have uc_7 := j_le c_7
    refine lv_aload_n hx hb dX6_pass_93 rfl (lv_at hl 4 rfl) ?_
    refine lv_iload hx hb dX6_pass_94 (lv_at hl 1 rfl) ?_
    refine t_pi hx hb hts hown hK hLA hB hS mh2 th2 fi_8_6 rfl rfl rfl (i_lo _) (i_hi _) (Or.inl (by decide)) mw_1_105 dX6_pass_96 (fun H locs σ_8 eσ_8 hB hS => ?_)
    have k_9 : σ_8 h2 6 = i_1 := by rw [eσ_8]; exact up2_same _ _ _ _
    refine lv_aload_n hx hb dX6_pass_99 rfl (lv_at hl 4 rfl) ?_
    refine lv_sipush (v := 999) hx hb dX6_pass_100 (by decide) ?_
    refine lv_aload_n hx hb dX6_pass_103 rfl (lv_at hl 4 rfl) ?_
    refine t_gi hx hb hts hown hK hB mh2 th2 fi_8_7 rfl mw_1_111 dX6_pass_104 (fun x_10 ex_10 lx_10 ux_10 => ?_)
    refine lv_iconst (v := 1) hx hb dX6_pass_107 (by decide) ?_
    refine lv_iadd hx hb dX6_pass_108 ?_
    refine lv_topi (fun x_11 ex_11 => ?_)
    refine va_mmin hx hb (hml.trans hl.1.symm) hown (hts _ mw_4_134) (hts _ mw_3_123) (hts _ mw_1_18) (hts _ mw_3_124) (Nat.le_of_ble_eq_true rfl) (Nat.le_of_ble_eq_true rfl) (Nat.zero_le _) (Nat.zero_le _) dX6_pass_109 ?_
    refine lv_topi (fun x_12 ex_12 => ?_)
    obtain ⟨lx_12, mx_12, ux_12⟩ := m_min (by decide : (999 : Int32).toInt = 999) (rfl : x_11.toInt = _) ex_12
    refine t_pi hx hb hts hown hK hLA hB hS mh2 th2 fi_8_7 rfl rfl rfl (i_lo _) (i_hi _) (Or.inl (by decide)) mw_1_111 dX6_pass_112 (fun H locs σ_13 eσ_13 hB hS => ?_)
    have k_14 : σ_13 h2 7 = x_12 := by rw [eσ_13]; exact up2_same _ _ _ _
    exact W.vret hx hb hr (fun t ht hW => ⟨⟨(σ_13, ρ_4), rfl, ⟨hB.2.1, hB.2.2, trivial⟩, (show TP D cA L T r σ_13 ρ_4 t.heap from by rw [ht]; exact hB.1)⟩, hS.F ht⟩) hS.2.2 dX6_pass_115
  · skip
    have uc_7 := j_nle c_7
    refine lv_aload_nN hx hb dX6_pass_15 rfl (lv_at hl 5 rfl) ?_
    refine lv_ifnonnullN hx hb dX6_pass_16 ?_
    refine lv_aload_n hx hb dX6_pass_19 rfl (lv_at hl 4 rfl) ?_
    refine t_gi hx hb hts hown hK hB mh2 th2 fi_8_6 rfl mw_1_105 dX6_pass_20 (fun x_15 ex_15 lx_15 ux_15 => ?_)
    refine lv_iload hx hb dX6_pass_23 (lv_at hl 0 rfl) ?_
    refine lv_ishr hx hb dX6_pass_25 ?_
    refine lv_topi (fun x_16 ex_16 => ?_)
    refine lv_iconst (v := 1) hx hb dX6_pass_26 (by decide) ?_
    refine lv_iand hx hb dX6_pass_27 ?_
    refine lv_topi (fun x_17 ex_17 => ?_)
    obtain ⟨lx_17, ux_17⟩ := and_m 1 (n := 1) (by decide) (by decide) (by decide) ex_17
    refine lv_if_ne (tgt := 35) hx hb dX6_pass_28 (by decide) (fun c_18 => ?_) (fun c_18 => ?_)
    · skip
      have uc_18 := i_ne (n := 0) (by decide) c_18
      refine lv_iconst (v := 0) hx hb dX6_pass_35 (by decide) ?_
      refine lv_istore (lv' := [(6, .int 0), (5, .int i_2), (4, .int i_1), (0, .ref h0), (1, .ref h1), (2, .ref h2), (3, .null)]) hx hb dX6_pass_36 hl (by decide) rfl (fun ls hl => ?_)
      refine lv_goto (tgt := 73) hx hb dX6_pass_38 (by decide) ?_
      refine lv_iload hx hb dX6_pass_73 (lv_at hl 0 rfl) ?_
      refine lv_if_eq (tgt := 87) hx hb dX6_pass_75 (by decide) (fun _ => ?_) (fun c9 => absurd (by decide) c9)
      obtain ⟨x_19, ex_19⟩ : ∃ y : Int32, y = i_2 + 1 := ⟨_, rfl⟩
      have vx_19 := b_add (rfl : i_2.toInt = _) (by decide : (1 : Int32).toInt = 1) ex_19 (by omega) (by omega)
      refine lv_iinc (v := x_19) (lv' := [(5, .int x_19), (6, .int 0), (4, .int i_1), (0, .ref h0), (1, .ref h1), (2, .ref h2), (3, .null)]) hx hb dX6_pass_87 hl (k := 1) rfl (by rw [ex_19]; rfl) (by decide) rfl (fun ls hl => ?_)
      refine lv_goto (tgt := 6) hx hb dX6_pass_90 (by decide) ?_
      exact ih_5 ⟨i_1, x_19, σ_3, ρ_4⟩ _ _ _ ⟨(by omega), (by omega), hB, hS, lv_sub hl [0, 2, 3, 4, 5, 6] rfl⟩ (by show (8 - x_19.toInt).toNat < (8 - i_2.toInt).toNat; omega)
    · skip
      have uc_18 := i_eq (n := 0) (by decide) c_18
      refine lv_iconst (v := 1) hx hb dX6_pass_31 (by decide) ?_
      refine lv_goto (tgt := 36) hx hb dX6_pass_32 (by decide) ?_
      refine lv_istore (lv' := [(6, .int 1), (5, .int i_2), (4, .int i_1), (0, .ref h0), (1, .ref h1), (2, .ref h2), (3, .null)]) hx hb dX6_pass_36 hl (by decide) rfl (fun ls hl => ?_)
      refine lv_goto (tgt := 73) hx hb dX6_pass_38 (by decide) ?_
      refine lv_iload hx hb dX6_pass_73 (lv_at hl 0 rfl) ?_
      refine lv_if_eq (tgt := 87) hx hb dX6_pass_75 (by decide) (fun c9 => absurd c9 (by decide)) (fun _ => ?_)
      refine lv_iload hx hb dX6_pass_78 (lv_at hl 2 rfl) ?_
      refine lv_iconst (v := 1) hx hb dX6_pass_80 (by decide) ?_
      refine lv_iload hx hb dX6_pass_81 (lv_at hl 1 rfl) ?_
      refine lv_ishl hx hb dX6_pass_83 ?_
      refine lv_topi (fun x_20 ex_20 => ?_)
      refine lv_ior hx hb dX6_pass_84 ?_
      refine lv_topi (fun x_21 ex_21 => ?_)
      refine lv_istore (lv' := [(4, .int x_21), (6, .int 1), (5, .int i_2), (0, .ref h0), (1, .ref h1), (2, .ref h2), (3, .null)]) hx hb dX6_pass_85 hl (by decide) rfl (fun ls hl => ?_)
      obtain ⟨x_22, ex_22⟩ : ∃ y : Int32, y = i_2 + 1 := ⟨_, rfl⟩
      have vx_22 := b_add (rfl : i_2.toInt = _) (by decide : (1 : Int32).toInt = 1) ex_22 (by omega) (by omega)
      refine lv_iinc (v := x_22) (lv' := [(5, .int x_22), (4, .int x_21), (6, .int 1), (0, .ref h0), (1, .ref h1), (2, .ref h2), (3, .null)]) hx hb dX6_pass_87 hl (k := 2) rfl (by rw [ex_22]; rfl) (by decide) rfl (fun ls hl => ?_)
      refine lv_goto (tgt := 6) hx hb dX6_pass_90 (by decide) ?_
      exact ih_5 ⟨x_21, x_22, σ_3, ρ_4⟩ _ _ _ ⟨(by omega), (by omega), hB, hS, lv_sub hl [0, 1, 3, 4, 5, 6] rfl⟩ (by show (8 - x_22.toInt).toNat < (8 - i_2.toInt).toNat; omega)
set_option maxHeartbeats 4000000 in
set_option maxRecDepth 100000 in
theorem cy_X6_pass_103_7 (l : Launch) (D : va_G) (cA : Nat → ClassId) (L : List Nat) (T : Nat → Nat) (r : Rg) (hG : GR L T r) (hL : L.Nodup) (σ : Sg) (ρ : Lg) (hW : WT L ry T σ) (sz : Nat) (h0 : Nat) (mh0 : h0 ∈ L) (th0 : T h0 = 6) (h1 : Nat) (mh1 : h1 ∈ L) (th1 : T h1 = 3) (h2 : Nat) (mh2 : h2 ∈ L) (th2 : T h2 = 103) (h3 : Nat) (mh3 : h3 ∈ L) (th3 : T h3 = 7) : Met l yX6_pass (.code yX6_pass cX6_pass 7 none :: wsA) ({ frames := 3, cells := 0, slots := 0, locals := 75 }) (PR D cA L T r σ ρ sz [.ref h0, .ref h1, .ref h2, .ref h3]) (QV D cA L T r ry [(103, 6), (103, 7)] σ sz (fun σ1 => True)) 0 0 (dm L sz) := by
  refine Met.ofW (cc := cX6_pass) (maxL := 7) (ret := none) (by decide) rfl ?_
  intro p e s m args below meth c s₁ B hml hv
  obtain ⟨rfl, hsz, hP, hK, hN⟩ := hv
  have hx := B.exec
  have hb := B.bytes
  have hr := B.returns
  have hts : ∀ w ∈ wsA, w.before _ s = true := fun w h => atoms_spec (ws := .code yX6_pass cX6_pass 7 none :: wsA) B.pre w (List.mem_cons_of_mem _ h)
  have hown : s.vm.findClass RX6 = some m.cls := findClass_of_methodNamed B.named
  subst hsz
  have hLA : LA (dm L s.heap.size) L := ⟨hL, fun a h => Or.inl h⟩
  have hA : ∀ q : Nat, s.heap.size ≤ q → dm L s.heap.size q := fun q h => Or.inr h
  have hS : va_S (dm L s.heap.size) s.heap s.heap [] := va_S.rf
  have hB : TS D cA L T r ry [(103, 6), (103, 7)] σ σ ρ s.heap := ⟨hP, hW, FR.rf⟩
  have hl := lv_entry ([.ref h0, .ref h1, .ref h2, .ref h3]) (n := 7) (Nat.le_of_ble_eq_true rfl)
  rw [lg_entry_eq]
  generalize (lg_sl ([.ref h0, .ref h1, .ref h2, .ref h3]) ++ List.replicate (7 - (lg_sl ([.ref h0, .ref h1, .ref h2, .ref h3])).length) Slot.unset).toArray = ls at hl ⊢
  have hl : lv_has ls 7 [(0, .ref h0), (1, .ref h1), (2, .ref h2), (3, .ref h3)] := hl
  refine lv_iconst (v := 0) hx hb dX6_pass_0 (by decide) ?_
  refine lv_istore (lv' := [(4, .int 0), (0, .ref h0), (1, .ref h1), (2, .ref h2), (3, .ref h3)]) hx hb dX6_pass_1 hl (by decide) rfl (fun ls hl => ?_)
  refine lv_iconst (v := 0) hx hb dX6_pass_3 (by decide) ?_
  refine lv_istore (lv' := [(5, .int 0), (4, .int 0), (0, .ref h0), (1, .ref h1), (2, .ref h2), (3, .ref h3)]) hx hb dX6_pass_4 hl (by decide) rfl (fun ls hl => ?_)
  refine w_loop (α := Int32 × Int32 × Sg × Lg) (fun (i_1, i_2, σ_3, ρ_4) H locs ls => 0 ≤ i_2.toInt ∧ i_2.toInt ≤ 8 ∧ TS D cA L T r ry [(103, 6), (103, 7)] σ σ_3 ρ_4 H ∧ va_S (dm L s.heap.size) s.heap H locs ∧ lv_has ls 7 [(5, .int i_2), (4, .int i_1), (0, .ref h0), (1, .ref h1), (2, .ref h2), (3, .ref h3)]) (fun (i_1, i_2, σ_3, ρ_4) => (8 - i_2.toInt).toNat) ?_ ⟨0, 0, σ, ρ⟩ ⟨(by decide), (by decide), hB, hS, lv_sub hl [0, 1, 2, 3, 4, 5] rfl⟩
  rintro ⟨i_1, i_2, σ_3, ρ_4⟩ H locs ls ⟨li_2, ui_2, hB, hS, hl⟩ ih_5
  refine lv_iload hx hb dX6_pass_6 (lv_at hl 0 rfl) ?_
  refine lv_aload_n hx hb dX6_pass_8 rfl (lv_at hl 3 rfl) ?_
  refine t_gi hx hb hts hown hK hB mh1 th1 fi_3_9 rfl mw_1_178 dX6_pass_9 (fun x_6 ex_6 lx_6 ux_6 => ?_)
  refine lv_icmp_ge (tgt := 93) hx hb dX6_pass_12 (by decide) (fun c_7 => ?_) (fun c_7 => ?_)
  · skip
    have uc_7 := j_le c_7
    refine lv_aload_n hx hb dX6_pass_93 rfl (lv_at hl 4 rfl) ?_
    refine lv_iload hx hb dX6_pass_94 (lv_at hl 1 rfl) ?_
    refine t_pi hx hb hts hown hK hLA hB hS mh2 th2 fi_103_6 rfl rfl rfl (i_lo _) (i_hi _) (Or.inl (by decide)) mw_1_105 dX6_pass_96 (fun H locs σ_8 eσ_8 hB hS => ?_)
    have k_9 : σ_8 h2 6 = i_1 := by rw [eσ_8]; exact up2_same _ _ _ _
    refine lv_aload_n hx hb dX6_pass_99 rfl (lv_at hl 4 rfl) ?_
    refine lv_sipush (v := 999) hx hb dX6_pass_100 (by decide) ?_
    refine lv_aload_n hx hb dX6_pass_103 rfl (lv_at hl 4 rfl) ?_
    refine t_gi hx hb hts hown hK hB mh2 th2 fi_103_7 rfl mw_1_111 dX6_pass_104 (fun x_10 ex_10 lx_10 ux_10 => ?_)
    refine lv_iconst (v := 1) hx hb dX6_pass_107 (by decide) ?_
    refine lv_iadd hx hb dX6_pass_108 ?_
    refine lv_topi (fun x_11 ex_11 => ?_)
    refine va_mmin hx hb (hml.trans hl.1.symm) hown (hts _ mw_4_134) (hts _ mw_3_123) (hts _ mw_1_18) (hts _ mw_3_124) (Nat.le_of_ble_eq_true rfl) (Nat.le_of_ble_eq_true rfl) (Nat.zero_le _) (Nat.zero_le _) dX6_pass_109 ?_
    refine lv_topi (fun x_12 ex_12 => ?_)
    obtain ⟨lx_12, mx_12, ux_12⟩ := m_min (by decide : (999 : Int32).toInt = 999) (rfl : x_11.toInt = _) ex_12
    refine t_pi hx hb hts hown hK hLA hB hS mh2 th2 fi_103_7 rfl rfl rfl (i_lo _) (i_hi _) (Or.inl (by decide)) mw_1_111 dX6_pass_112 (fun H locs σ_13 eσ_13 hB hS => ?_)
    have k_14 : σ_13 h2 7 = x_12 := by rw [eσ_13]; exact up2_same _ _ _ _
    exact W.vret hx hb hr (fun t ht hW => ⟨⟨(σ_13, ρ_4), rfl, ⟨hB.2.1, hB.2.2, trivial⟩, (show TP D cA L T r σ_13 ρ_4 t.heap from by rw [ht]; exact hB.1)⟩, hS.F ht⟩) hS.2.2 dX6_pass_115
  · skip
    have uc_7 := j_nle c_7
    refine lv_aload_n hx hb dX6_pass_15 rfl (lv_at hl 5 rfl) ?_
    refine lv_ifnonnull (tgt := 41) hx hb dX6_pass_16 (by decide) ?_
    refine lv_aload_n hx hb dX6_pass_41 rfl (lv_at hl 2 rfl) ?_
    refine lv_aload_n hx hb dX6_pass_42 rfl (lv_at hl 3 rfl) ?_
    refine lv_aload_n hx hb dX6_pass_43 rfl (lv_at hl 4 rfl) ?_
    refine lv_iload hx hb dX6_pass_44 (lv_at hl 0 rfl) ?_
    refine t_cv (va_runV (As := [.ref h1, .ref h2, .int i_2]) (rest := []) ⟨hx, hb, hml, hown, hts⟩ (cy_X6_fillWords_103 l D cA L T r hG hLA.1 σ_3 ρ_4 hB.2.1 _ h0 mh0 th0 h1 mh1 th1 h2 mh2 th2 i_2 (by first | omega | decide) (by first | omega | decide)) (cV hts mv_X6_fillWords mw_4_118 rfl rfl ⟨Nat.le_of_ble_eq_true rfl, Nat.le_of_ble_eq_true rfl⟩) (pV hB.1 hK hN mh0 th0 (show shp cA 6 _ _ _ = .inr (6, Fs6 _ _ _) from rfl) rfl) rfl rfl hl.1 rfl (lv_room (Nat.le_of_ble_eq_true rfl)) dX6_pass_46 ⟨Nat.le_of_ble_eq_true rfl, Nat.le_of_ble_eq_true rfl⟩) hLA hA hB hS (by decide) (fun σ_15 ρ_16 H locs hB fσ_15 pσ_15 hS => ?_)
    have qσ_15 := FR.nil fσ_15
    subst qσ_15
    refine lv_aload_n hx hb dX6_pass_49 rfl (lv_at hl 5 rfl) ?_
    refine lv_aload_n hx hb dX6_pass_50 rfl (lv_at hl 2 rfl) ?_
    refine t_gr hx hb hts hown hK hG hB mh0 th0 fq_6_0 rfl mw_2_67 dX6_pass_51 (fun b_18 hb_18 mb_18 tb_18 => ?_)
    refine lv_aload_n hx hb dX6_pass_54 rfl (lv_at hl 2 rfl) ?_
    refine t_gr hx hb hts hown hK hG hB mh0 th0 fq_6_1 rfl mw_2_68 dX6_pass_55 (fun b_19 hb_19 mb_19 tb_19 => ?_)
    refine t_cl (va_runV (As := [.ref b_18, .ref b_19]) (rest := []) ⟨hx, hb, hml, hown, hts⟩ (cy_X7_valueFor l D cA L T r hG hLA.1 σ_3 ρ_16 hB.2.1 _ h3 mh3 th3 b_18 mb_18 tb_18 b_19 mb_19 tb_19) (cV hts mv_X7_valueFor mw_4_123 rfl rfl ⟨Nat.le_of_ble_eq_true rfl, Nat.le_of_ble_eq_true rfl⟩) (pV hB.1 hK hN mh3 th3 (show shp cA 7 _ _ _ = .inr (7, Fs7 _ _ _) from rfl) rfl) rfl rfl hl.1 rfl (lv_room (Nat.le_of_ble_eq_true rfl)) dX6_pass_58 ⟨Nat.le_of_ble_eq_true rfl, Nat.le_of_ble_eq_true rfl⟩) hLA hA hB hS (by decide) (fun y_22 σ_20 ρ_21 H locs hB fσ_20 pσ_20 hS => ?_)
    have qσ_20 := FR.nil fσ_20
    subst qσ_20
    refine lv_lconst (v := 0) hx hb dX6_pass_61 (by decide) ?_
    refine W.lcmp hx hb dX6_pass_62 ?_
    refine lv_if_gt (tgt := 70) hx hb dX6_pass_63 (by decide) (fun c_23 => ?_) (fun c_23 => ?_)
    · skip
      have uc_23 := l_lt (by decide : (0 : Int64).toInt = 0) (rfl : y_22.toInt = _) ((lg_cmp_gt _ _).mp c_23)
      refine lv_iconst (v := 0) hx hb dX6_pass_70 (by decide) ?_
      refine lv_istore (lv' := [(6, .int 0), (5, .int i_2), (4, .int i_1), (0, .ref h0), (1, .ref h1), (2, .ref h2), (3, .ref h3)]) hx hb dX6_pass_71 hl (by decide) rfl (fun ls hl => ?_)
      refine lv_iload hx hb dX6_pass_73 (lv_at hl 0 rfl) ?_
      refine lv_if_eq (tgt := 87) hx hb dX6_pass_75 (by decide) (fun _ => ?_) (fun c9 => absurd (by decide) c9)
      obtain ⟨x_24, ex_24⟩ : ∃ y : Int32, y = i_2 + 1 := ⟨_, rfl⟩
      have vx_24 := b_add (rfl : i_2.toInt = _) (by decide : (1 : Int32).toInt = 1) ex_24 (by omega) (by omega)
      refine lv_iinc (v := x_24) (lv' := [(5, .int x_24), (6, .int 0), (4, .int i_1), (0, .ref h0), (1, .ref h1), (2, .ref h2), (3, .ref h3)]) hx hb dX6_pass_87 hl (k := 1) rfl (by rw [ex_24]; rfl) (by decide) rfl (fun ls hl => ?_)
      refine lv_goto (tgt := 6) hx hb dX6_pass_90 (by decide) ?_
      exact ih_5 ⟨i_1, x_24, σ_3, ρ_21⟩ _ _ _ ⟨(by omega), (by omega), hB, hS, lv_sub hl [0, 2, 3, 4, 5, 6] rfl⟩ (by show (8 - x_24.toInt).toNat < (8 - i_2.toInt).toNat; omega)
    · skip
      have uc_23 := l_nlt (by decide : (0 : Int64).toInt = 0) (rfl : y_22.toInt = _) (mt (lg_cmp_gt _ _).mpr c_23)
      refine lv_iconst (v := 1) hx hb dX6_pass_66 (by decide) ?_
      refine lv_goto (tgt := 71) hx hb dX6_pass_67 (by decide) ?_
      refine lv_istore (lv' := [(6, .int 1), (5, .int i_2), (4, .int i_1), (0, .ref h0), (1, .ref h1), (2, .ref h2), (3, .ref h3)]) hx hb dX6_pass_71 hl (by decide) rfl (fun ls hl => ?_)
      refine lv_iload hx hb dX6_pass_73 (lv_at hl 0 rfl) ?_
      refine lv_if_eq (tgt := 87) hx hb dX6_pass_75 (by decide) (fun c9 => absurd c9 (by decide)) (fun _ => ?_)
      refine lv_iload hx hb dX6_pass_78 (lv_at hl 2 rfl) ?_
      refine lv_iconst (v := 1) hx hb dX6_pass_80 (by decide) ?_
      refine lv_iload hx hb dX6_pass_81 (lv_at hl 1 rfl) ?_
      refine lv_ishl hx hb dX6_pass_83 ?_
      refine lv_topi (fun x_25 ex_25 => ?_)
      refine lv_ior hx hb dX6_pass_84 ?_
      refine lv_topi (fun x_26 ex_26 => ?_)
      refine lv_istore (lv' := [(4, .int x_26), (6, .int 1), (5, .int i_2), (0, .ref h0), (1, .ref h1), (2, .ref h2), (3, .ref h3)]) hx hb dX6_pass_85 hl (by decide) rfl (fun ls hl => ?_)
      obtain ⟨x_27, ex_27⟩ : ∃ y : Int32, y = i_2 + 1 := ⟨_, rfl⟩
      have vx_27 := b_add (rfl : i_2.toInt = _) (by decide : (1 : Int32).toInt = 1) ex_27 (by omega) (by omega)
      refine lv_iinc (v := x_27) (lv' := [(5, .int x_27), (4, .int x_26), (6, .int 1), (0, .ref h0), (1, .ref h1), (2, .ref h2), (3, .ref h3)]) hx hb dX6_pass_87 hl (k := 2) rfl (by rw [ex_27]; rfl) (by decide) rfl (fun ls hl => ?_)
      refine lv_goto (tgt := 6) hx hb dX6_pass_90 (by decide) ?_
      exact ih_5 ⟨x_26, x_27, σ_3, ρ_21⟩ _ _ _ ⟨(by omega), (by omega), hB, hS, lv_sub hl [0, 1, 3, 4, 5, 6] rfl⟩ (by show (8 - x_27.toInt).toNat < (8 - i_2.toInt).toNat; omega)
set_option maxHeartbeats 4000000 in
set_option maxRecDepth 100000 in
theorem cy_X6_pass_103_0 (l : Launch) (D : va_G) (cA : Nat → ClassId) (L : List Nat) (T : Nat → Nat) (r : Rg) (hG : GR L T r) (hL : L.Nodup) (σ : Sg) (ρ : Lg) (hW : WT L ry T σ) (sz : Nat) (h0 : Nat) (mh0 : h0 ∈ L) (th0 : T h0 = 6) (h1 : Nat) (mh1 : h1 ∈ L) (th1 : T h1 = 3) (h2 : Nat) (mh2 : h2 ∈ L) (th2 : T h2 = 103) : Met l yX6_pass (.code yX6_pass cX6_pass 7 none :: wsA) ({ frames := 1, cells := 0, slots := 0, locals := 40 }) (PR D cA L T r σ ρ sz [.ref h0, .ref h1, .ref h2, .null]) (QV D cA L T r ry [(103, 6), (103, 7)] σ sz (fun σ1 => True)) 0 0 (dm L sz) := by
  refine Met.ofW (cc := cX6_pass) (maxL := 7) (ret := none) (by decide) rfl ?_
  intro p e s m args below meth c s₁ B hml hv
  obtain ⟨rfl, hsz, hP, hK, hN⟩ := hv
  have hx := B.exec
  have hb := B.bytes
  have hr := B.returns
  have hts : ∀ w ∈ wsA, w.before _ s = true := fun w h => atoms_spec (ws := .code yX6_pass cX6_pass 7 none :: wsA) B.pre w (List.mem_cons_of_mem _ h)
  have hown : s.vm.findClass RX6 = some m.cls := findClass_of_methodNamed B.named
  subst hsz
  have hLA : LA (dm L s.heap.size) L := ⟨hL, fun a h => Or.inl h⟩
  have hA : ∀ q : Nat, s.heap.size ≤ q → dm L s.heap.size q := fun q h => Or.inr h
  have hS : va_S (dm L s.heap.size) s.heap s.heap [] := va_S.rf
  have hB : TS D cA L T r ry [(103, 6), (103, 7)] σ σ ρ s.heap := ⟨hP, hW, FR.rf⟩
  have hl := lv_entry ([.ref h0, .ref h1, .ref h2, .null]) (n := 7) (Nat.le_of_ble_eq_true rfl)
  rw [lg_entry_eq]
  generalize (lg_sl ([.ref h0, .ref h1, .ref h2, .null]) ++ List.replicate (7 - (lg_sl ([.ref h0, .ref h1, .ref h2, .null])).length) Slot.unset).toArray = ls at hl ⊢
  have hl : lv_has ls 7 [(0, .ref h0), (1, .ref h1), (2, .ref h2), (3, .null)] := hl
  refine lv_iconst (v := 0) hx hb dX6_pass_0 (by decide) ?_
  refine lv_istore (lv' := [(4, .int 0), (0, .ref h0), (1, .ref h1), (2, .ref h2), (3, .null)]) hx hb dX6_pass_1 hl (by decide) rfl (fun ls hl => ?_)
  refine lv_iconst (v := 0) hx hb dX6_pass_3 (by decide) ?_
  refine lv_istore (lv' := [(5, .int 0), (4, .int 0), (0, .ref h0), (1, .ref h1), (2, .ref h2), (3, .null)]) hx hb dX6_pass_4 hl (by decide) rfl (fun ls hl => ?_)
  refine w_loop (α := Int32 × Int32 × Sg × Lg) (fun (i_1, i_2, σ_3, ρ_4) H locs ls => 0 ≤ i_2.toInt ∧ i_2.toInt ≤ 8 ∧ TS D cA L T r ry [(103, 6), (103, 7)] σ σ_3 ρ_4 H ∧ va_S (dm L s.heap.size) s.heap H locs ∧ lv_has ls 7 [(5, .int i_2), (4, .int i_1), (0, .ref h0), (1, .ref h1), (2, .ref h2), (3, .null)]) (fun (i_1, i_2, σ_3, ρ_4) => (8 - i_2.toInt).toNat) ?_ ⟨0, 0, σ, ρ⟩ ⟨(by decide), (by decide), hB, hS, lv_sub hl [0, 1, 2, 3, 4, 5] rfl⟩
  rintro ⟨i_1, i_2, σ_3, ρ_4⟩ H locs ls ⟨li_2, ui_2, hB, hS, hl⟩ ih_5
  refine lv_iload hx hb dX6_pass_6 (lv_at hl 0 rfl) ?_
  refine lv_aload_n hx hb dX6_pass_8 rfl (lv_at hl 3 rfl) ?_
  refine t_gi hx hb hts hown hK hB mh1 th1 fi_3_9 rfl mw_1_178 dX6_pass_9 (fun x_6 ex_6 lx_6 ux_6 => ?_)
  refine lv_icmp_ge (tgt := 93) hx hb dX6_pass_12 (by decide) (fun c_7 => ?_) (fun c_7 => ?_)
  · skip
    have uc_7 := j_le c_7
    refine lv_aload_n hx hb dX6_pass_93 rfl (lv_at hl 4 rfl) ?_
    refine lv_iload hx hb dX6_pass_94 (lv_at hl 1 rfl) ?_
    refine t_pi hx hb hts hown hK hLA hB hS mh2 th2 fi_103_6 rfl rfl rfl (i_lo _) (i_hi _) (Or.inl (by decide)) mw_1_105 dX6_pass_96 (fun H locs σ_8 eσ_8 hB hS => ?_)
    have k_9 : σ_8 h2 6 = i_1 := by rw [eσ_8]; exact up2_same _ _ _ _
    refine lv_aload_n hx hb dX6_pass_99 rfl (lv_at hl 4 rfl) ?_
    refine lv_sipush (v := 999) hx hb dX6_pass_100 (by decide) ?_
    refine lv_aload_n hx hb dX6_pass_103 rfl (lv_at hl 4 rfl) ?_
    refine t_gi hx hb hts hown hK hB mh2 th2 fi_103_7 rfl mw_1_111 dX6_pass_104 (fun x_10 ex_10 lx_10 ux_10 => ?_)
    refine lv_iconst (v := 1) hx hb dX6_pass_107 (by decide) ?_
    refine lv_iadd hx hb dX6_pass_108 ?_
    refine lv_topi (fun x_11 ex_11 => ?_)
    refine va_mmin hx hb (hml.trans hl.1.symm) hown (hts _ mw_4_134) (hts _ mw_3_123) (hts _ mw_1_18) (hts _ mw_3_124) (Nat.le_of_ble_eq_true rfl) (Nat.le_of_ble_eq_true rfl) (Nat.zero_le _) (Nat.zero_le _) dX6_pass_109 ?_
    refine lv_topi (fun x_12 ex_12 => ?_)
    obtain ⟨lx_12, mx_12, ux_12⟩ := m_min (by decide : (999 : Int32).toInt = 999) (rfl : x_11.toInt = _) ex_12
    refine t_pi hx hb hts hown hK hLA hB hS mh2 th2 fi_103_7 rfl rfl rfl (i_lo _) (i_hi _) (Or.inl (by decide)) mw_1_111 dX6_pass_112 (fun H locs σ_13 eσ_13 hB hS => ?_)
    have k_14 : σ_13 h2 7 = x_12 := by rw [eσ_13]; exact up2_same _ _ _ _
    exact W.vret hx hb hr (fun t ht hW => ⟨⟨(σ_13, ρ_4), rfl, ⟨hB.2.1, hB.2.2, trivial⟩, (show TP D cA L T r σ_13 ρ_4 t.heap from by rw [ht]; exact hB.1)⟩, hS.F ht⟩) hS.2.2 dX6_pass_115
  · skip
    have uc_7 := j_nle c_7
    refine lv_aload_nN hx hb dX6_pass_15 rfl (lv_at hl 5 rfl) ?_
    refine lv_ifnonnullN hx hb dX6_pass_16 ?_
    refine lv_aload_n hx hb dX6_pass_19 rfl (lv_at hl 4 rfl) ?_
    refine t_gi hx hb hts hown hK hB mh2 th2 fi_103_6 rfl mw_1_105 dX6_pass_20 (fun x_15 ex_15 lx_15 ux_15 => ?_)
    refine lv_iload hx hb dX6_pass_23 (lv_at hl 0 rfl) ?_
    refine lv_ishr hx hb dX6_pass_25 ?_
    refine lv_topi (fun x_16 ex_16 => ?_)
    refine lv_iconst (v := 1) hx hb dX6_pass_26 (by decide) ?_
    refine lv_iand hx hb dX6_pass_27 ?_
    refine lv_topi (fun x_17 ex_17 => ?_)
    obtain ⟨lx_17, ux_17⟩ := and_m 1 (n := 1) (by decide) (by decide) (by decide) ex_17
    refine lv_if_ne (tgt := 35) hx hb dX6_pass_28 (by decide) (fun c_18 => ?_) (fun c_18 => ?_)
    · skip
      have uc_18 := i_ne (n := 0) (by decide) c_18
      refine lv_iconst (v := 0) hx hb dX6_pass_35 (by decide) ?_
      refine lv_istore (lv' := [(6, .int 0), (5, .int i_2), (4, .int i_1), (0, .ref h0), (1, .ref h1), (2, .ref h2), (3, .null)]) hx hb dX6_pass_36 hl (by decide) rfl (fun ls hl => ?_)
      refine lv_goto (tgt := 73) hx hb dX6_pass_38 (by decide) ?_
      refine lv_iload hx hb dX6_pass_73 (lv_at hl 0 rfl) ?_
      refine lv_if_eq (tgt := 87) hx hb dX6_pass_75 (by decide) (fun _ => ?_) (fun c9 => absurd (by decide) c9)
      obtain ⟨x_19, ex_19⟩ : ∃ y : Int32, y = i_2 + 1 := ⟨_, rfl⟩
      have vx_19 := b_add (rfl : i_2.toInt = _) (by decide : (1 : Int32).toInt = 1) ex_19 (by omega) (by omega)
      refine lv_iinc (v := x_19) (lv' := [(5, .int x_19), (6, .int 0), (4, .int i_1), (0, .ref h0), (1, .ref h1), (2, .ref h2), (3, .null)]) hx hb dX6_pass_87 hl (k := 1) rfl (by rw [ex_19]; rfl) (by decide) rfl (fun ls hl => ?_)
      refine lv_goto (tgt := 6) hx hb dX6_pass_90 (by decide) ?_
      exact ih_5 ⟨i_1, x_19, σ_3, ρ_4⟩ _ _ _ ⟨(by omega), (by omega), hB, hS, lv_sub hl [0, 2, 3, 4, 5, 6] rfl⟩ (by show (8 - x_19.toInt).toNat < (8 - i_2.toInt).toNat; omega)
    · skip
      have uc_18 := i_eq (n := 0) (by decide) c_18
      refine lv_iconst (v := 1) hx hb dX6_pass_31 (by decide) ?_
      refine lv_goto (tgt := 36) hx hb dX6_pass_32 (by decide) ?_
      refine lv_istore (lv' := [(6, .int 1), (5, .int i_2), (4, .int i_1), (0, .ref h0), (1, .ref h1), (2, .ref h2), (3, .null)]) hx hb dX6_pass_36 hl (by decide) rfl (fun ls hl => ?_)
      refine lv_goto (tgt := 73) hx hb dX6_pass_38 (by decide) ?_
      refine lv_iload hx hb dX6_pass_73 (lv_at hl 0 rfl) ?_
      refine lv_if_eq (tgt := 87) hx hb dX6_pass_75 (by decide) (fun c9 => absurd c9 (by decide)) (fun _ => ?_)
      refine lv_iload hx hb dX6_pass_78 (lv_at hl 2 rfl) ?_
      refine lv_iconst (v := 1) hx hb dX6_pass_80 (by decide) ?_
      refine lv_iload hx hb dX6_pass_81 (lv_at hl 1 rfl) ?_
      refine lv_ishl hx hb dX6_pass_83 ?_
      refine lv_topi (fun x_20 ex_20 => ?_)
      refine lv_ior hx hb dX6_pass_84 ?_
      refine lv_topi (fun x_21 ex_21 => ?_)
      refine lv_istore (lv' := [(4, .int x_21), (6, .int 1), (5, .int i_2), (0, .ref h0), (1, .ref h1), (2, .ref h2), (3, .null)]) hx hb dX6_pass_85 hl (by decide) rfl (fun ls hl => ?_)
      obtain ⟨x_22, ex_22⟩ : ∃ y : Int32, y = i_2 + 1 := ⟨_, rfl⟩
      have vx_22 := b_add (rfl : i_2.toInt = _) (by decide : (1 : Int32).toInt = 1) ex_22 (by omega) (by omega)
      refine lv_iinc (v := x_22) (lv' := [(5, .int x_22), (4, .int x_21), (6, .int 1), (0, .ref h0), (1, .ref h1), (2, .ref h2), (3, .null)]) hx hb dX6_pass_87 hl (k := 2) rfl (by rw [ex_22]; rfl) (by decide) rfl (fun ls hl => ?_)
      refine lv_goto (tgt := 6) hx hb dX6_pass_90 (by decide) ?_
      exact ih_5 ⟨x_21, x_22, σ_3, ρ_4⟩ _ _ _ ⟨(by omega), (by omega), hB, hS, lv_sub hl [0, 1, 3, 4, 5, 6] rfl⟩ (by show (8 - x_22.toInt).toNat < (8 - i_2.toInt).toNat; omega)
set_option maxHeartbeats 4000000 in
set_option maxRecDepth 100000 in
theorem cy_X6_pass_104_7 (l : Launch) (D : va_G) (cA : Nat → ClassId) (L : List Nat) (T : Nat → Nat) (r : Rg) (hG : GR L T r) (hL : L.Nodup) (σ : Sg) (ρ : Lg) (hW : WT L ry T σ) (sz : Nat) (h0 : Nat) (mh0 : h0 ∈ L) (th0 : T h0 = 6) (h1 : Nat) (mh1 : h1 ∈ L) (th1 : T h1 = 3) (h2 : Nat) (mh2 : h2 ∈ L) (th2 : T h2 = 104) (h3 : Nat) (mh3 : h3 ∈ L) (th3 : T h3 = 7) : Met l yX6_pass (.code yX6_pass cX6_pass 7 none :: wsA) ({ frames := 3, cells := 0, slots := 0, locals := 75 }) (PR D cA L T r σ ρ sz [.ref h0, .ref h1, .ref h2, .ref h3]) (QV D cA L T r ry [(104, 6), (104, 7)] σ sz (fun σ1 => True)) 0 0 (dm L sz) := by
  refine Met.ofW (cc := cX6_pass) (maxL := 7) (ret := none) (by decide) rfl ?_
  intro p e s m args below meth c s₁ B hml hv
  obtain ⟨rfl, hsz, hP, hK, hN⟩ := hv
  have hx := B.exec
  have hb := B.bytes
  have hr := B.returns
  have hts : ∀ w ∈ wsA, w.before _ s = true := fun w h => atoms_spec (ws := .code yX6_pass cX6_pass 7 none :: wsA) B.pre w (List.mem_cons_of_mem _ h)
  have hown : s.vm.findClass RX6 = some m.cls := findClass_of_methodNamed B.named
  subst hsz
  have hLA : LA (dm L s.heap.size) L := ⟨hL, fun a h => Or.inl h⟩
  have hA : ∀ q : Nat, s.heap.size ≤ q → dm L s.heap.size q := fun q h => Or.inr h
  have hS : va_S (dm L s.heap.size) s.heap s.heap [] := va_S.rf
  have hB : TS D cA L T r ry [(104, 6), (104, 7)] σ σ ρ s.heap := ⟨hP, hW, FR.rf⟩
  have hl := lv_entry ([.ref h0, .ref h1, .ref h2, .ref h3]) (n := 7) (Nat.le_of_ble_eq_true rfl)
  rw [lg_entry_eq]
  generalize (lg_sl ([.ref h0, .ref h1, .ref h2, .ref h3]) ++ List.replicate (7 - (lg_sl ([.ref h0, .ref h1, .ref h2, .ref h3])).length) Slot.unset).toArray = ls at hl ⊢
  have hl : lv_has ls 7 [(0, .ref h0), (1, .ref h1), (2, .ref h2), (3, .ref h3)] := hl
  refine lv_iconst (v := 0) hx hb dX6_pass_0 (by decide) ?_
  refine lv_istore (lv' := [(4, .int 0), (0, .ref h0), (1, .ref h1), (2, .ref h2), (3, .ref h3)]) hx hb dX6_pass_1 hl (by decide) rfl (fun ls hl => ?_)
  refine lv_iconst (v := 0) hx hb dX6_pass_3 (by decide) ?_
  refine lv_istore (lv' := [(5, .int 0), (4, .int 0), (0, .ref h0), (1, .ref h1), (2, .ref h2), (3, .ref h3)]) hx hb dX6_pass_4 hl (by decide) rfl (fun ls hl => ?_)
  refine w_loop (α := Int32 × Int32 × Sg × Lg) (fun (i_1, i_2, σ_3, ρ_4) H locs ls => 0 ≤ i_2.toInt ∧ i_2.toInt ≤ 8 ∧ TS D cA L T r ry [(104, 6), (104, 7)] σ σ_3 ρ_4 H ∧ va_S (dm L s.heap.size) s.heap H locs ∧ lv_has ls 7 [(5, .int i_2), (4, .int i_1), (0, .ref h0), (1, .ref h1), (2, .ref h2), (3, .ref h3)]) (fun (i_1, i_2, σ_3, ρ_4) => (8 - i_2.toInt).toNat) ?_ ⟨0, 0, σ, ρ⟩ ⟨(by decide), (by decide), hB, hS, lv_sub hl [0, 1, 2, 3, 4, 5] rfl⟩
  rintro ⟨i_1, i_2, σ_3, ρ_4⟩ H locs ls ⟨li_2, ui_2, hB, hS, hl⟩ ih_5
  refine lv_iload hx hb dX6_pass_6 (lv_at hl 0 rfl) ?_
  refine lv_aload_n hx hb dX6_pass_8 rfl (lv_at hl 3 rfl) ?_
  refine t_gi hx hb hts hown hK hB mh1 th1 fi_3_9 rfl mw_1_178 dX6_pass_9 (fun x_6 ex_6 lx_6 ux_6 => ?_)
  refine lv_icmp_ge (tgt := 93) hx hb dX6_pass_12 (by decide) (fun c_7 => ?_) (fun c_7 => ?_)
  · skip
    have uc_7 := j_le c_7
    refine lv_aload_n hx hb dX6_pass_93 rfl (lv_at hl 4 rfl) ?_
    refine lv_iload hx hb dX6_pass_94 (lv_at hl 1 rfl) ?_
    refine t_pi hx hb hts hown hK hLA hB hS mh2 th2 fi_104_6 rfl rfl rfl (i_lo _) (i_hi _) (Or.inl (by decide)) mw_1_105 dX6_pass_96 (fun H locs σ_8 eσ_8 hB hS => ?_)
    have k_9 : σ_8 h2 6 = i_1 := by rw [eσ_8]; exact up2_same _ _ _ _
    refine lv_aload_n hx hb dX6_pass_99 rfl (lv_at hl 4 rfl) ?_
    refine lv_sipush (v := 999) hx hb dX6_pass_100 (by decide) ?_
    refine lv_aload_n hx hb dX6_pass_103 rfl (lv_at hl 4 rfl) ?_
    refine t_gi hx hb hts hown hK hB mh2 th2 fi_104_7 rfl mw_1_111 dX6_pass_104 (fun x_10 ex_10 lx_10 ux_10 => ?_)
    refine lv_iconst (v := 1) hx hb dX6_pass_107 (by decide) ?_
    refine lv_iadd hx hb dX6_pass_108 ?_
    refine lv_topi (fun x_11 ex_11 => ?_)
    refine va_mmin hx hb (hml.trans hl.1.symm) hown (hts _ mw_4_134) (hts _ mw_3_123) (hts _ mw_1_18) (hts _ mw_3_124) (Nat.le_of_ble_eq_true rfl) (Nat.le_of_ble_eq_true rfl) (Nat.zero_le _) (Nat.zero_le _) dX6_pass_109 ?_
    refine lv_topi (fun x_12 ex_12 => ?_)
    obtain ⟨lx_12, mx_12, ux_12⟩ := m_min (by decide : (999 : Int32).toInt = 999) (rfl : x_11.toInt = _) ex_12
    refine t_pi hx hb hts hown hK hLA hB hS mh2 th2 fi_104_7 rfl rfl rfl (i_lo _) (i_hi _) (Or.inl (by decide)) mw_1_111 dX6_pass_112 (fun H locs σ_13 eσ_13 hB hS => ?_)
    have k_14 : σ_13 h2 7 = x_12 := by rw [eσ_13]; exact up2_same _ _ _ _
    exact W.vret hx hb hr (fun t ht hW => ⟨⟨(σ_13, ρ_4), rfl, ⟨hB.2.1, hB.2.2, trivial⟩, (show TP D cA L T r σ_13 ρ_4 t.heap from by rw [ht]; exact hB.1)⟩, hS.F ht⟩) hS.2.2 dX6_pass_115
  · skip
    have uc_7 := j_nle c_7
    refine lv_aload_n hx hb dX6_pass_15 rfl (lv_at hl 5 rfl) ?_
    refine lv_ifnonnull (tgt := 41) hx hb dX6_pass_16 (by decide) ?_
    refine lv_aload_n hx hb dX6_pass_41 rfl (lv_at hl 2 rfl) ?_
    refine lv_aload_n hx hb dX6_pass_42 rfl (lv_at hl 3 rfl) ?_
    refine lv_aload_n hx hb dX6_pass_43 rfl (lv_at hl 4 rfl) ?_
    refine lv_iload hx hb dX6_pass_44 (lv_at hl 0 rfl) ?_
    refine t_cv (va_runV (As := [.ref h1, .ref h2, .int i_2]) (rest := []) ⟨hx, hb, hml, hown, hts⟩ (cy_X6_fillWords_104 l D cA L T r hG hLA.1 σ_3 ρ_4 hB.2.1 _ h0 mh0 th0 h1 mh1 th1 h2 mh2 th2 i_2 (by first | omega | decide) (by first | omega | decide)) (cV hts mv_X6_fillWords mw_4_118 rfl rfl ⟨Nat.le_of_ble_eq_true rfl, Nat.le_of_ble_eq_true rfl⟩) (pV hB.1 hK hN mh0 th0 (show shp cA 6 _ _ _ = .inr (6, Fs6 _ _ _) from rfl) rfl) rfl rfl hl.1 rfl (lv_room (Nat.le_of_ble_eq_true rfl)) dX6_pass_46 ⟨Nat.le_of_ble_eq_true rfl, Nat.le_of_ble_eq_true rfl⟩) hLA hA hB hS (by decide) (fun σ_15 ρ_16 H locs hB fσ_15 pσ_15 hS => ?_)
    have qσ_15 := FR.nil fσ_15
    subst qσ_15
    refine lv_aload_n hx hb dX6_pass_49 rfl (lv_at hl 5 rfl) ?_
    refine lv_aload_n hx hb dX6_pass_50 rfl (lv_at hl 2 rfl) ?_
    refine t_gr hx hb hts hown hK hG hB mh0 th0 fq_6_0 rfl mw_2_67 dX6_pass_51 (fun b_18 hb_18 mb_18 tb_18 => ?_)
    refine lv_aload_n hx hb dX6_pass_54 rfl (lv_at hl 2 rfl) ?_
    refine t_gr hx hb hts hown hK hG hB mh0 th0 fq_6_1 rfl mw_2_68 dX6_pass_55 (fun b_19 hb_19 mb_19 tb_19 => ?_)
    refine t_cl (va_runV (As := [.ref b_18, .ref b_19]) (rest := []) ⟨hx, hb, hml, hown, hts⟩ (cy_X7_valueFor l D cA L T r hG hLA.1 σ_3 ρ_16 hB.2.1 _ h3 mh3 th3 b_18 mb_18 tb_18 b_19 mb_19 tb_19) (cV hts mv_X7_valueFor mw_4_123 rfl rfl ⟨Nat.le_of_ble_eq_true rfl, Nat.le_of_ble_eq_true rfl⟩) (pV hB.1 hK hN mh3 th3 (show shp cA 7 _ _ _ = .inr (7, Fs7 _ _ _) from rfl) rfl) rfl rfl hl.1 rfl (lv_room (Nat.le_of_ble_eq_true rfl)) dX6_pass_58 ⟨Nat.le_of_ble_eq_true rfl, Nat.le_of_ble_eq_true rfl⟩) hLA hA hB hS (by decide) (fun y_22 σ_20 ρ_21 H locs hB fσ_20 pσ_20 hS => ?_)
    have qσ_20 := FR.nil fσ_20
    subst qσ_20
    refine lv_lconst (v := 0) hx hb dX6_pass_61 (by decide) ?_
    refine W.lcmp hx hb dX6_pass_62 ?_
    refine lv_if_gt (tgt := 70) hx hb dX6_pass_63 (by decide) (fun c_23 => ?_) (fun c_23 => ?_)
    · skip
      have uc_23 := l_lt (by decide : (0 : Int64).toInt = 0) (rfl : y_22.toInt = _) ((lg_cmp_gt _ _).mp c_23)
      refine lv_iconst (v := 0) hx hb dX6_pass_70 (by decide) ?_
      refine lv_istore (lv' := [(6, .int 0), (5, .int i_2), (4, .int i_1), (0, .ref h0), (1, .ref h1), (2, .ref h2), (3, .ref h3)]) hx hb dX6_pass_71 hl (by decide) rfl (fun ls hl => ?_)
      refine lv_iload hx hb dX6_pass_73 (lv_at hl 0 rfl) ?_
      refine lv_if_eq (tgt := 87) hx hb dX6_pass_75 (by decide) (fun _ => ?_) (fun c9 => absurd (by decide) c9)
      obtain ⟨x_24, ex_24⟩ : ∃ y : Int32, y = i_2 + 1 := ⟨_, rfl⟩
      have vx_24 := b_add (rfl : i_2.toInt = _) (by decide : (1 : Int32).toInt = 1) ex_24 (by omega) (by omega)
      refine lv_iinc (v := x_24) (lv' := [(5, .int x_24), (6, .int 0), (4, .int i_1), (0, .ref h0), (1, .ref h1), (2, .ref h2), (3, .ref h3)]) hx hb dX6_pass_87 hl (k := 1) rfl (by rw [ex_24]; rfl) (by decide) rfl (fun ls hl => ?_)
      refine lv_goto (tgt := 6) hx hb dX6_pass_90 (by decide) ?_
      exact ih_5 ⟨i_1, x_24, σ_3, ρ_21⟩ _ _ _ ⟨(by omega), (by omega), hB, hS, lv_sub hl [0, 2, 3, 4, 5, 6] rfl⟩ (by show (8 - x_24.toInt).toNat < (8 - i_2.toInt).toNat; omega)
    · skip
      have uc_23 := l_nlt (by decide : (0 : Int64).toInt = 0) (rfl : y_22.toInt = _) (mt (lg_cmp_gt _ _).mpr c_23)
      refine lv_iconst (v := 1) hx hb dX6_pass_66 (by decide) ?_
      refine lv_goto (tgt := 71) hx hb dX6_pass_67 (by decide) ?_
      refine lv_istore (lv' := [(6, .int 1), (5, .int i_2), (4, .int i_1), (0, .ref h0), (1, .ref h1), (2, .ref h2), (3, .ref h3)]) hx hb dX6_pass_71 hl (by decide) rfl (fun ls hl => ?_)
      refine lv_iload hx hb dX6_pass_73 (lv_at hl 0 rfl) ?_
      refine lv_if_eq (tgt := 87) hx hb dX6_pass_75 (by decide) (fun c9 => absurd c9 (by decide)) (fun _ => ?_)
      refine lv_iload hx hb dX6_pass_78 (lv_at hl 2 rfl) ?_
      refine lv_iconst (v := 1) hx hb dX6_pass_80 (by decide) ?_
      refine lv_iload hx hb dX6_pass_81 (lv_at hl 1 rfl) ?_
      refine lv_ishl hx hb dX6_pass_83 ?_
      refine lv_topi (fun x_25 ex_25 => ?_)
      refine lv_ior hx hb dX6_pass_84 ?_
      refine lv_topi (fun x_26 ex_26 => ?_)
      refine lv_istore (lv' := [(4, .int x_26), (6, .int 1), (5, .int i_2), (0, .ref h0), (1, .ref h1), (2, .ref h2), (3, .ref h3)]) hx hb dX6_pass_85 hl (by decide) rfl (fun ls hl => ?_)
      obtain ⟨x_27, ex_27⟩ : ∃ y : Int32, y = i_2 + 1 := ⟨_, rfl⟩
      have vx_27 := b_add (rfl : i_2.toInt = _) (by decide : (1 : Int32).toInt = 1) ex_27 (by omega) (by omega)
      refine lv_iinc (v := x_27) (lv' := [(5, .int x_27), (4, .int x_26), (6, .int 1), (0, .ref h0), (1, .ref h1), (2, .ref h2), (3, .ref h3)]) hx hb dX6_pass_87 hl (k := 2) rfl (by rw [ex_27]; rfl) (by decide) rfl (fun ls hl => ?_)
      refine lv_goto (tgt := 6) hx hb dX6_pass_90 (by decide) ?_
      exact ih_5 ⟨x_26, x_27, σ_3, ρ_21⟩ _ _ _ ⟨(by omega), (by omega), hB, hS, lv_sub hl [0, 1, 3, 4, 5, 6] rfl⟩ (by show (8 - x_27.toInt).toNat < (8 - i_2.toInt).toNat; omega)
set_option maxHeartbeats 4000000 in
set_option maxRecDepth 100000 in
theorem cy_X6_pass_104_0 (l : Launch) (D : va_G) (cA : Nat → ClassId) (L : List Nat) (T : Nat → Nat) (r : Rg) (hG : GR L T r) (hL : L.Nodup) (σ : Sg) (ρ : Lg) (hW : WT L ry T σ) (sz : Nat) (h0 : Nat) (mh0 : h0 ∈ L) (th0 : T h0 = 6) (h1 : Nat) (mh1 : h1 ∈ L) (th1 : T h1 = 3) (h2 : Nat) (mh2 : h2 ∈ L) (th2 : T h2 = 104) : Met l yX6_pass (.code yX6_pass cX6_pass 7 none :: wsA) ({ frames := 1, cells := 0, slots := 0, locals := 40 }) (PR D cA L T r σ ρ sz [.ref h0, .ref h1, .ref h2, .null]) (QV D cA L T r ry [(104, 6), (104, 7)] σ sz (fun σ1 => True)) 0 0 (dm L sz) := by
  refine Met.ofW (cc := cX6_pass) (maxL := 7) (ret := none) (by decide) rfl ?_
  intro p e s m args below meth c s₁ B hml hv
  obtain ⟨rfl, hsz, hP, hK, hN⟩ := hv
  have hx := B.exec
  have hb := B.bytes
  have hr := B.returns
  have hts : ∀ w ∈ wsA, w.before _ s = true := fun w h => atoms_spec (ws := .code yX6_pass cX6_pass 7 none :: wsA) B.pre w (List.mem_cons_of_mem _ h)
  have hown : s.vm.findClass RX6 = some m.cls := findClass_of_methodNamed B.named
  subst hsz
  have hLA : LA (dm L s.heap.size) L := ⟨hL, fun a h => Or.inl h⟩
  have hA : ∀ q : Nat, s.heap.size ≤ q → dm L s.heap.size q := fun q h => Or.inr h
  have hS : va_S (dm L s.heap.size) s.heap s.heap [] := va_S.rf
  have hB : TS D cA L T r ry [(104, 6), (104, 7)] σ σ ρ s.heap := ⟨hP, hW, FR.rf⟩
  have hl := lv_entry ([.ref h0, .ref h1, .ref h2, .null]) (n := 7) (Nat.le_of_ble_eq_true rfl)
  rw [lg_entry_eq]
  generalize (lg_sl ([.ref h0, .ref h1, .ref h2, .null]) ++ List.replicate (7 - (lg_sl ([.ref h0, .ref h1, .ref h2, .null])).length) Slot.unset).toArray = ls at hl ⊢
  have hl : lv_has ls 7 [(0, .ref h0), (1, .ref h1), (2, .ref h2), (3, .null)] := hl
  refine lv_iconst (v := 0) hx hb dX6_pass_0 (by decide) ?_
  refine lv_istore (lv' := [(4, .int 0), (0, .ref h0), (1, .ref h1), (2, .ref h2), (3, .null)]) hx hb dX6_pass_1 hl (by decide) rfl (fun ls hl => ?_)
  refine lv_iconst (v := 0) hx hb dX6_pass_3 (by decide) ?_
  refine lv_istore (lv' := [(5, .int 0), (4, .int 0), (0, .ref h0), (1, .ref h1), (2, .ref h2), (3, .null)]) hx hb dX6_pass_4 hl (by decide) rfl (fun ls hl => ?_)
  refine w_loop (α := Int32 × Int32 × Sg × Lg) (fun (i_1, i_2, σ_3, ρ_4) H locs ls => 0 ≤ i_2.toInt ∧ i_2.toInt ≤ 8 ∧ TS D cA L T r ry [(104, 6), (104, 7)] σ σ_3 ρ_4 H ∧ va_S (dm L s.heap.size) s.heap H locs ∧ lv_has ls 7 [(5, .int i_2), (4, .int i_1), (0, .ref h0), (1, .ref h1), (2, .ref h2), (3, .null)]) (fun (i_1, i_2, σ_3, ρ_4) => (8 - i_2.toInt).toNat) ?_ ⟨0, 0, σ, ρ⟩ ⟨(by decide), (by decide), hB, hS, lv_sub hl [0, 1, 2, 3, 4, 5] rfl⟩
  rintro ⟨i_1, i_2, σ_3, ρ_4⟩ H locs ls ⟨li_2, ui_2, hB, hS, hl⟩ ih_5
  refine lv_iload hx hb dX6_pass_6 (lv_at hl 0 rfl) ?_
  refine lv_aload_n hx hb dX6_pass_8 rfl (lv_at hl 3 rfl) ?_
  refine t_gi hx hb hts hown hK hB mh1 th1 fi_3_9 rfl mw_1_178 dX6_pass_9 (fun x_6 ex_6 lx_6 ux_6 => ?_)
  refine lv_icmp_ge (tgt := 93) hx hb dX6_pass_12 (by decide) (fun c_7 => ?_) (fun c_7 => ?_)
  · skip
    have uc_7 := j_le c_7
    refine lv_aload_n hx hb dX6_pass_93 rfl (lv_at hl 4 rfl) ?_
    refine lv_iload hx hb dX6_pass_94 (lv_at hl 1 rfl) ?_
    refine t_pi hx hb hts hown hK hLA hB hS mh2 th2 fi_104_6 rfl rfl rfl (i_lo _) (i_hi _) (Or.inl (by decide)) mw_1_105 dX6_pass_96 (fun H locs σ_8 eσ_8 hB hS => ?_)
    have k_9 : σ_8 h2 6 = i_1 := by rw [eσ_8]; exact up2_same _ _ _ _
    refine lv_aload_n hx hb dX6_pass_99 rfl (lv_at hl 4 rfl) ?_
    refine lv_sipush (v := 999) hx hb dX6_pass_100 (by decide) ?_
    refine lv_aload_n hx hb dX6_pass_103 rfl (lv_at hl 4 rfl) ?_
    refine t_gi hx hb hts hown hK hB mh2 th2 fi_104_7 rfl mw_1_111 dX6_pass_104 (fun x_10 ex_10 lx_10 ux_10 => ?_)
    refine lv_iconst (v := 1) hx hb dX6_pass_107 (by decide) ?_
    refine lv_iadd hx hb dX6_pass_108 ?_
    refine lv_topi (fun x_11 ex_11 => ?_)
    refine va_mmin hx hb (hml.trans hl.1.symm) hown (hts _ mw_4_134) (hts _ mw_3_123) (hts _ mw_1_18) (hts _ mw_3_124) (Nat.le_of_ble_eq_true rfl) (Nat.le_of_ble_eq_true rfl) (Nat.zero_le _) (Nat.zero_le _) dX6_pass_109 ?_
    refine lv_topi (fun x_12 ex_12 => ?_)
    obtain ⟨lx_12, mx_12, ux_12⟩ := m_min (by decide : (999 : Int32).toInt = 999) (rfl : x_11.toInt = _) ex_12
    refine t_pi hx hb hts hown hK hLA hB hS mh2 th2 fi_104_7 rfl rfl rfl (i_lo _) (i_hi _) (Or.inl (by decide)) mw_1_111 dX6_pass_112 (fun H locs σ_13 eσ_13 hB hS => ?_)
    have k_14 : σ_13 h2 7 = x_12 := by rw [eσ_13]; exact up2_same _ _ _ _
    exact W.vret hx hb hr (fun t ht hW => ⟨⟨(σ_13, ρ_4), rfl, ⟨hB.2.1, hB.2.2, trivial⟩, (show TP D cA L T r σ_13 ρ_4 t.heap from by rw [ht]; exact hB.1)⟩, hS.F ht⟩) hS.2.2 dX6_pass_115
  · skip
    have uc_7 := j_nle c_7
    refine lv_aload_nN hx hb dX6_pass_15 rfl (lv_at hl 5 rfl) ?_
    refine lv_ifnonnullN hx hb dX6_pass_16 ?_
    refine lv_aload_n hx hb dX6_pass_19 rfl (lv_at hl 4 rfl) ?_
    refine t_gi hx hb hts hown hK hB mh2 th2 fi_104_6 rfl mw_1_105 dX6_pass_20 (fun x_15 ex_15 lx_15 ux_15 => ?_)
    refine lv_iload hx hb dX6_pass_23 (lv_at hl 0 rfl) ?_
    refine lv_ishr hx hb dX6_pass_25 ?_
    refine lv_topi (fun x_16 ex_16 => ?_)
    refine lv_iconst (v := 1) hx hb dX6_pass_26 (by decide) ?_
    refine lv_iand hx hb dX6_pass_27 ?_
    refine lv_topi (fun x_17 ex_17 => ?_)
    obtain ⟨lx_17, ux_17⟩ := and_m 1 (n := 1) (by decide) (by decide) (by decide) ex_17
    refine lv_if_ne (tgt := 35) hx hb dX6_pass_28 (by decide) (fun c_18 => ?_) (fun c_18 => ?_)
    · skip
      have uc_18 := i_ne (n := 0) (by decide) c_18
      refine lv_iconst (v := 0) hx hb dX6_pass_35 (by decide) ?_
      refine lv_istore (lv' := [(6, .int 0), (5, .int i_2), (4, .int i_1), (0, .ref h0), (1, .ref h1), (2, .ref h2), (3, .null)]) hx hb dX6_pass_36 hl (by decide) rfl (fun ls hl => ?_)
      refine lv_goto (tgt := 73) hx hb dX6_pass_38 (by decide) ?_
      refine lv_iload hx hb dX6_pass_73 (lv_at hl 0 rfl) ?_
      refine lv_if_eq (tgt := 87) hx hb dX6_pass_75 (by decide) (fun _ => ?_) (fun c9 => absurd (by decide) c9)
      obtain ⟨x_19, ex_19⟩ : ∃ y : Int32, y = i_2 + 1 := ⟨_, rfl⟩
      have vx_19 := b_add (rfl : i_2.toInt = _) (by decide : (1 : Int32).toInt = 1) ex_19 (by omega) (by omega)
      refine lv_iinc (v := x_19) (lv' := [(5, .int x_19), (6, .int 0), (4, .int i_1), (0, .ref h0), (1, .ref h1), (2, .ref h2), (3, .null)]) hx hb dX6_pass_87 hl (k := 1) rfl (by rw [ex_19]; rfl) (by decide) rfl (fun ls hl => ?_)
      refine lv_goto (tgt := 6) hx hb dX6_pass_90 (by decide) ?_
      exact ih_5 ⟨i_1, x_19, σ_3, ρ_4⟩ _ _ _ ⟨(by omega), (by omega), hB, hS, lv_sub hl [0, 2, 3, 4, 5, 6] rfl⟩ (by show (8 - x_19.toInt).toNat < (8 - i_2.toInt).toNat; omega)
    · skip
      have uc_18 := i_eq (n := 0) (by decide) c_18
      refine lv_iconst (v := 1) hx hb dX6_pass_31 (by decide) ?_
      refine lv_goto (tgt := 36) hx hb dX6_pass_32 (by decide) ?_
      refine lv_istore (lv' := [(6, .int 1), (5, .int i_2), (4, .int i_1), (0, .ref h0), (1, .ref h1), (2, .ref h2), (3, .null)]) hx hb dX6_pass_36 hl (by decide) rfl (fun ls hl => ?_)
      refine lv_goto (tgt := 73) hx hb dX6_pass_38 (by decide) ?_
      refine lv_iload hx hb dX6_pass_73 (lv_at hl 0 rfl) ?_
      refine lv_if_eq (tgt := 87) hx hb dX6_pass_75 (by decide) (fun c9 => absurd c9 (by decide)) (fun _ => ?_)
      refine lv_iload hx hb dX6_pass_78 (lv_at hl 2 rfl) ?_
      refine lv_iconst (v := 1) hx hb dX6_pass_80 (by decide) ?_
      refine lv_iload hx hb dX6_pass_81 (lv_at hl 1 rfl) ?_
      refine lv_ishl hx hb dX6_pass_83 ?_
      refine lv_topi (fun x_20 ex_20 => ?_)
      refine lv_ior hx hb dX6_pass_84 ?_
      refine lv_topi (fun x_21 ex_21 => ?_)
      refine lv_istore (lv' := [(4, .int x_21), (6, .int 1), (5, .int i_2), (0, .ref h0), (1, .ref h1), (2, .ref h2), (3, .null)]) hx hb dX6_pass_85 hl (by decide) rfl (fun ls hl => ?_)
      obtain ⟨x_22, ex_22⟩ : ∃ y : Int32, y = i_2 + 1 := ⟨_, rfl⟩
      have vx_22 := b_add (rfl : i_2.toInt = _) (by decide : (1 : Int32).toInt = 1) ex_22 (by omega) (by omega)
      refine lv_iinc (v := x_22) (lv' := [(5, .int x_22), (4, .int x_21), (6, .int 1), (0, .ref h0), (1, .ref h1), (2, .ref h2), (3, .null)]) hx hb dX6_pass_87 hl (k := 2) rfl (by rw [ex_22]; rfl) (by decide) rfl (fun ls hl => ?_)
      refine lv_goto (tgt := 6) hx hb dX6_pass_90 (by decide) ?_
      exact ih_5 ⟨x_21, x_22, σ_3, ρ_4⟩ _ _ _ ⟨(by omega), (by omega), hB, hS, lv_sub hl [0, 1, 3, 4, 5, 6] rfl⟩ (by show (8 - x_22.toInt).toNat < (8 - i_2.toInt).toNat; omega)
theorem mw_2_70 : (.fieldLink RX6 80 "HillBends$Nights" "x" "I" : Cond) ∈ wsA := wsA_t (List.mem_append_right _ (List.mem_append_left _ (List.mem_of_getElem? (l := tables_1_2) (i := 70) rfl))) rfl
theorem mw_5_178 : (.constant RX6 106 1103515245 : Cond) ∈ wsA := wsA_t (List.mem_append_right _ (List.mem_append_right _ (List.mem_append_right _ (List.mem_append_right _ (List.mem_append_left _ (List.mem_of_getElem? (l := tables_1_5) (i := 178) rfl)))))) rfl
theorem mw_5_179 : (.constant RX6 107 2147483647 : Cond) ∈ wsA := wsA_t (List.mem_append_right _ (List.mem_append_right _ (List.mem_append_right _ (List.mem_append_right _ (List.mem_append_left _ (List.mem_of_getElem? (l := tables_1_5) (i := 179) rfl)))))) rfl
theorem mw_5_180 : (.constant RX6 108 65536 : Cond) ∈ wsA := wsA_t (List.mem_append_right _ (List.mem_append_right _ (List.mem_append_right _ (List.mem_append_right _ (List.mem_append_left _ (List.mem_of_getElem? (l := tables_1_5) (i := 180) rfl)))))) rfl
theorem mw_2_69 : (.fieldLink RX6 23 "HillBends$Nights" "scene" "LHillBends$Scene;" : Cond) ∈ wsA := wsA_t (List.mem_append_right _ (List.mem_append_left _ (List.mem_of_getElem? (l := tables_1_2) (i := 69) rfl))) rfl
theorem mw_4_140 : (.instanceMethod yX8_canGoUp : Cond) ∈ wsA := wsA_t (List.mem_append_right _ (List.mem_append_right _ (List.mem_append_right _ (List.mem_append_left _ (List.mem_of_getElem? (l := tables_1_4) (i := 140) rfl))))) rfl
theorem mw_4_141 : (.selects RX8 yX8_canGoUp yX8_canGoUp : Cond) ∈ wsA := wsA_t (List.mem_append_right _ (List.mem_append_right _ (List.mem_append_right _ (List.mem_append_left _ (List.mem_of_getElem? (l := tables_1_4) (i := 141) rfl))))) rfl
theorem mw_4_142 : (.code yX8_canGoUp cX8_canGoUp 4 (some .boolean) : Cond) ∈ wsA := wsA_t (List.mem_append_right _ (List.mem_append_right _ (List.mem_append_right _ (List.mem_append_left _ (List.mem_of_getElem? (l := tables_1_4) (i := 142) rfl))))) rfl
theorem mw_5_182 : (.methodLink RX6 112 yX8_canGoUp : Cond) ∈ wsA := wsA_t (List.mem_append_right _ (List.mem_append_right _ (List.mem_append_right _ (List.mem_append_right _ (List.mem_append_left _ (List.mem_of_getElem? (l := tables_1_5) (i := 182) rfl)))))) rfl
theorem mw_4_145 : (.instanceMethod yX8_goUp : Cond) ∈ wsA := wsA_t (List.mem_append_right _ (List.mem_append_right _ (List.mem_append_right _ (List.mem_append_left _ (List.mem_of_getElem? (l := tables_1_4) (i := 145) rfl))))) rfl
theorem mw_4_146 : (.selects RX8 yX8_goUp yX8_goUp : Cond) ∈ wsA := wsA_t (List.mem_append_right _ (List.mem_append_right _ (List.mem_append_right _ (List.mem_append_left _ (List.mem_of_getElem? (l := tables_1_4) (i := 146) rfl))))) rfl
theorem mw_4_147 : (.code yX8_goUp cX8_goUp 6 none : Cond) ∈ wsA := wsA_t (List.mem_append_right _ (List.mem_append_right _ (List.mem_append_right _ (List.mem_append_left _ (List.mem_of_getElem? (l := tables_1_4) (i := 147) rfl))))) rfl
theorem mw_5_183 : (.methodLink RX6 116 yX8_goUp : Cond) ∈ wsA := wsA_t (List.mem_append_right _ (List.mem_append_right _ (List.mem_append_right _ (List.mem_append_right _ (List.mem_append_left _ (List.mem_of_getElem? (l := tables_1_5) (i := 183) rfl)))))) rfl
theorem mw_2_73 : (.fieldLink RX6 84 "HillBends$Nights" "things" "I" : Cond) ∈ wsA := wsA_t (List.mem_append_right _ (List.mem_append_left _ (List.mem_of_getElem? (l := tables_1_2) (i := 73) rfl))) rfl
theorem mw_5_181 : (.methodLink RX6 109 yJ9_max_7cf53 : Cond) ∈ wsA := wsA_t (List.mem_append_right _ (List.mem_append_right _ (List.mem_append_right _ (List.mem_append_right _ (List.mem_append_left _ (List.mem_of_getElem? (l := tables_1_5) (i := 181) rfl)))))) rfl
theorem dX6_moveAll_0 : decode cX6_moveAll 0 = .ok (.iconst 0, 1) := by decide +kernel
theorem dX6_moveAll_1 : decode cX6_moveAll 1 = .ok (.istore_n 2, 1) := by decide +kernel
theorem dX6_moveAll_2 : decode cX6_moveAll 2 = .ok (.iload_n 2, 1) := by decide +kernel
theorem dX6_moveAll_3 : decode cX6_moveAll 3 = .ok (.aload_n 1, 1) := by decide +kernel
theorem dX6_moveAll_4 : decode cX6_moveAll 4 = .ok (.getfield 69, 3) := by decide +kernel
theorem dX6_moveAll_7 : decode cX6_moveAll 7 = .ok (.if_icmp .ge 97, 3) := by decide +kernel
theorem dX6_moveAll_104 : decode cX6_moveAll 104 = .ok (.return_, 1) := by decide +kernel
theorem dX6_moveAll_10 : decode cX6_moveAll 10 = .ok (.aload_n 0, 1) := by decide +kernel
theorem dX6_moveAll_11 : decode cX6_moveAll 11 = .ok (.aload_n 0, 1) := by decide +kernel
theorem dX6_moveAll_12 : decode cX6_moveAll 12 = .ok (.getfield 80, 3) := by decide +kernel
theorem dX6_moveAll_15 : decode cX6_moveAll 15 = .ok (.ldc 106, 2) := by decide +kernel
theorem dX6_moveAll_17 : decode cX6_moveAll 17 = .ok (.imul, 1) := by decide +kernel
theorem dX6_moveAll_18 : decode cX6_moveAll 18 = .ok (.sipush 12345, 3) := by decide +kernel
theorem dX6_moveAll_21 : decode cX6_moveAll 21 = .ok (.iadd, 1) := by decide +kernel
theorem dX6_moveAll_22 : decode cX6_moveAll 22 = .ok (.ldc 107, 2) := by decide +kernel
theorem dX6_moveAll_24 : decode cX6_moveAll 24 = .ok (.iand, 1) := by decide +kernel
theorem dX6_moveAll_25 : decode cX6_moveAll 25 = .ok (.putfield 80, 3) := by decide +kernel
theorem dX6_moveAll_28 : decode cX6_moveAll 28 = .ok (.aload_n 0, 1) := by decide +kernel
theorem dX6_moveAll_29 : decode cX6_moveAll 29 = .ok (.getfield 80, 3) := by decide +kernel
theorem dX6_moveAll_32 : decode cX6_moveAll 32 = .ok (.ldc 108, 2) := by decide +kernel
theorem dX6_moveAll_34 : decode cX6_moveAll 34 = .ok (.idiv, 1) := by decide +kernel
theorem dX6_moveAll_35 : decode cX6_moveAll 35 = .ok (.iconst 4, 1) := by decide +kernel
theorem dX6_moveAll_36 : decode cX6_moveAll 36 = .ok (.irem, 1) := by decide +kernel
theorem dX6_moveAll_37 : decode cX6_moveAll 37 = .ok (.ifCond .ne 30, 3) := by decide +kernel
theorem dX6_moveAll_67 : decode cX6_moveAll 67 = .ok (.aload_n 0, 1) := by decide +kernel
theorem dX6_moveAll_68 : decode cX6_moveAll 68 = .ok (.getfield 23, 3) := by decide +kernel
theorem dX6_moveAll_71 : decode cX6_moveAll 71 = .ok (.aload_n 1, 1) := by decide +kernel
theorem dX6_moveAll_72 : decode cX6_moveAll 72 = .ok (.iload_n 2, 1) := by decide +kernel
theorem dX6_moveAll_73 : decode cX6_moveAll 73 = .ok (.invokevirtual 112, 3) := by decide +kernel
theorem dX6_moveAll_76 : decode cX6_moveAll 76 = .ok (.ifCond .eq 22, 3) := by decide +kernel
theorem dX6_moveAll_98 : decode cX6_moveAll 98 = .ok (.iinc 2 1, 3) := by decide +kernel
theorem dX6_moveAll_101 : decode cX6_moveAll 101 = .ok (.goto (-99), 3) := by decide +kernel
theorem dX6_moveAll_79 : decode cX6_moveAll 79 = .ok (.aload_n 0, 1) := by decide +kernel
theorem dX6_moveAll_80 : decode cX6_moveAll 80 = .ok (.getfield 23, 3) := by decide +kernel
theorem dX6_moveAll_83 : decode cX6_moveAll 83 = .ok (.aload_n 1, 1) := by decide +kernel
theorem dX6_moveAll_84 : decode cX6_moveAll 84 = .ok (.iload_n 2, 1) := by decide +kernel
theorem dX6_moveAll_85 : decode cX6_moveAll 85 = .ok (.invokevirtual 116, 3) := by decide +kernel
theorem dX6_moveAll_88 : decode cX6_moveAll 88 = .ok (.aload_n 0, 1) := by decide +kernel
theorem dX6_moveAll_89 : decode cX6_moveAll 89 = .ok (.dup, 1) := by decide +kernel
theorem dX6_moveAll_90 : decode cX6_moveAll 90 = .ok (.getfield 84, 3) := by decide +kernel
theorem dX6_moveAll_93 : decode cX6_moveAll 93 = .ok (.iconst 1, 1) := by decide +kernel
theorem dX6_moveAll_94 : decode cX6_moveAll 94 = .ok (.iadd, 1) := by decide +kernel
theorem dX6_moveAll_95 : decode cX6_moveAll 95 = .ok (.putfield 84, 3) := by decide +kernel
theorem dX6_moveAll_40 : decode cX6_moveAll 40 = .ok (.aload_n 0, 1) := by decide +kernel
theorem dX6_moveAll_41 : decode cX6_moveAll 41 = .ok (.getfield 23, 3) := by decide +kernel
theorem dX6_moveAll_44 : decode cX6_moveAll 44 = .ok (.getfield 72, 3) := by decide +kernel
theorem dX6_moveAll_47 : decode cX6_moveAll 47 = .ok (.iload_n 2, 1) := by decide +kernel
theorem dX6_moveAll_48 : decode cX6_moveAll 48 = .ok (.iconst 0, 1) := by decide +kernel
theorem dX6_moveAll_49 : decode cX6_moveAll 49 = .ok (.aload_n 0, 1) := by decide +kernel
theorem dX6_moveAll_50 : decode cX6_moveAll 50 = .ok (.getfield 23, 3) := by decide +kernel
theorem dX6_moveAll_53 : decode cX6_moveAll 53 = .ok (.getfield 72, 3) := by decide +kernel
theorem dX6_moveAll_56 : decode cX6_moveAll 56 = .ok (.iload_n 2, 1) := by decide +kernel
theorem dX6_moveAll_57 : decode cX6_moveAll 57 = .ok (.iaload, 1) := by decide +kernel
theorem dX6_moveAll_58 : decode cX6_moveAll 58 = .ok (.iconst 1, 1) := by decide +kernel
theorem dX6_moveAll_59 : decode cX6_moveAll 59 = .ok (.isub, 1) := by decide +kernel
theorem dX6_moveAll_60 : decode cX6_moveAll 60 = .ok (.invokestatic 109, 3) := by decide +kernel
theorem dX6_moveAll_63 : decode cX6_moveAll 63 = .ok (.iastore, 1) := by decide +kernel
theorem dX6_moveAll_64 : decode cX6_moveAll 64 = .ok (.goto 34, 3) := by decide +kernel
theorem mv_X8_canGoUp : MV RX8 yX8_canGoUp cX8_canGoUp 4 (some .boolean) 2 := ⟨mw_4_140, mw_4_141, mw_1_5, mw_4_142, ⟨rfl, by decide, by decide, by decide +kernel⟩⟩
theorem mv_X8_goUp : MV RX8 yX8_goUp cX8_goUp 6 none 2 := ⟨mw_4_145, mw_4_146, mw_1_5, mw_4_147, ⟨rfl, by decide, by decide, by decide +kernel⟩⟩
set_option maxHeartbeats 4000000 in
set_option maxRecDepth 100000 in
theorem cy_X6_moveAll (l : Launch) (D : va_G) (cA : Nat → ClassId) (L : List Nat) (T : Nat → Nat) (r : Rg) (hG : GR L T r) (hL : L.Nodup) (σ : Sg) (ρ : Lg) (hW : WT L ry T σ) (sz : Nat) (h0 : Nat) (mh0 : h0 ∈ L) (th0 : T h0 = 6) (h1 : Nat) (mh1 : h1 ∈ L) (th1 : T h1 = 3) : Met l yX6_moveAll (.code yX6_moveAll cX6_moveAll 3 none :: wsA) ({ frames := 2, cells := 0, slots := 0, locals := 65 }) (PR D cA L T r σ ρ sz [.ref h0, .ref h1]) (QV D cA L T r ry [(6, 3), (6, 5), (125, 1000), (127, 1000), (129, 1000), (130, 1000)] σ sz (fun σ1 => True)) 0 0 (dm L sz) := by
  refine Met.ofW (cc := cX6_moveAll) (maxL := 3) (ret := none) (by decide) rfl ?_
  intro p e s m args below meth c s₁ B hml hv
  obtain ⟨rfl, hsz, hP, hK, hN⟩ := hv
  have hx := B.exec
  have hb := B.bytes
  have hr := B.returns
  have hts : ∀ w ∈ wsA, w.before _ s = true := fun w h => atoms_spec (ws := .code yX6_moveAll cX6_moveAll 3 none :: wsA) B.pre w (List.mem_cons_of_mem _ h)
  have hown : s.vm.findClass RX6 = some m.cls := findClass_of_methodNamed B.named
  subst hsz
  have hLA : LA (dm L s.heap.size) L := ⟨hL, fun a h => Or.inl h⟩
  have hA : ∀ q : Nat, s.heap.size ≤ q → dm L s.heap.size q := fun q h => Or.inr h
  have hS : va_S (dm L s.heap.size) s.heap s.heap [] := va_S.rf
  have hB : TS D cA L T r ry [(6, 3), (6, 5), (125, 1000), (127, 1000), (129, 1000), (130, 1000)] σ σ ρ s.heap := ⟨hP, hW, FR.rf⟩
  have hl := lv_entry ([.ref h0, .ref h1]) (n := 3) (Nat.le_of_ble_eq_true rfl)
  rw [lg_entry_eq]
  generalize (lg_sl ([.ref h0, .ref h1]) ++ List.replicate (3 - (lg_sl ([.ref h0, .ref h1])).length) Slot.unset).toArray = ls at hl ⊢
  have hl : lv_has ls 3 [(0, .ref h0), (1, .ref h1)] := hl
  refine lv_iconst (v := 0) hx hb dX6_moveAll_0 (by decide) ?_
  refine lv_istore_n (lv' := [(2, .int 0), (0, .ref h0), (1, .ref h1)]) hx hb dX6_moveAll_1 rfl hl (by decide) rfl (fun ls hl => ?_)
  refine w_loop (α := Int32 × Sg × Lg) (fun (i_1, σ_2, ρ_3) H locs ls => 0 ≤ i_1.toInt ∧ i_1.toInt ≤ 4 ∧ TS D cA L T r ry [(6, 3), (6, 5), (125, 1000), (127, 1000), (129, 1000), (130, 1000)] σ σ_2 ρ_3 H ∧ va_S (dm L s.heap.size) s.heap H locs ∧ lv_has ls 3 [(2, .int i_1), (0, .ref h0), (1, .ref h1)]) (fun (i_1, σ_2, ρ_3) => (4 - i_1.toInt).toNat) ?_ ⟨0, σ, ρ⟩ ⟨(by decide), (by decide), hB, hS, lv_sub hl [0, 1, 2] rfl⟩
  rintro ⟨i_1, σ_2, ρ_3⟩ H locs ls ⟨li_1, ui_1, hB, hS, hl⟩ ih_4
  refine lv_iload_n hx hb dX6_moveAll_2 rfl (lv_at hl 0 rfl) ?_
  refine lv_aload_n hx hb dX6_moveAll_3 rfl (lv_at hl 2 rfl) ?_
  refine t_gi hx hb hts hown hK hB mh1 th1 fi_3_10 rfl mw_1_186 dX6_moveAll_4 (fun x_5 ex_5 lx_5 ux_5 => ?_)
  refine lv_icmp_ge (tgt := 104) hx hb dX6_moveAll_7 (by decide) (fun c_6 => ?_) (fun c_6 => ?_)
  · skip
    have uc_6 := j_le c_6
    exact W.vret hx hb hr (fun t ht hW => ⟨⟨(σ_2, ρ_3), rfl, ⟨hB.2.1, hB.2.2, trivial⟩, (show TP D cA L T r σ_2 ρ_3 t.heap from by rw [ht]; exact hB.1)⟩, hS.F ht⟩) hS.2.2 dX6_moveAll_104
  · skip
    have uc_6 := j_nle c_6
    refine lv_aload_n hx hb dX6_moveAll_10 rfl (lv_at hl 1 rfl) ?_
    refine lv_aload_n hx hb dX6_moveAll_11 rfl (lv_at hl 1 rfl) ?_
    refine t_gi hx hb hts hown hK hB mh0 th0 fi_6_3 rfl mw_2_70 dX6_moveAll_12 (fun x_7 ex_7 lx_7 ux_7 => ?_)
    refine lv_ldc (v := 1103515245) hx hb hown (hts _ mw_5_178) dX6_moveAll_15 ?_
    refine lv_imul hx hb dX6_moveAll_17 ?_
    refine lv_topi (fun x_8 ex_8 => ?_)
    refine lv_sipush (v := 12345) hx hb dX6_moveAll_18 (by decide) ?_
    refine lv_iadd hx hb dX6_moveAll_21 ?_
    refine lv_topi (fun x_9 ex_9 => ?_)
    refine lv_ldc (v := 2147483647) hx hb hown (hts _ mw_5_179) dX6_moveAll_22 ?_
    refine lv_iand hx hb dX6_moveAll_24 ?_
    refine lv_topi (fun x_10 ex_10 => ?_)
    refine t_pi hx hb hts hown hK hLA hB hS mh0 th0 fi_6_3 rfl rfl rfl (i_lo _) (i_hi _) (Or.inl (by decide)) mw_2_70 dX6_moveAll_25 (fun H locs σ_11 eσ_11 hB hS => ?_)
    have k_12 : σ_11 h0 3 = x_10 := by rw [eσ_11]; exact up2_same _ _ _ _
    refine lv_aload_n hx hb dX6_moveAll_28 rfl (lv_at hl 1 rfl) ?_
    refine t_gv hx hb hts hown hK hB mh0 th0 fi_6_3 k_12 mw_2_70 dX6_moveAll_29 ?_
    refine lv_ldc (v := 65536) hx hb hown (hts _ mw_5_180) dX6_moveAll_32 ?_
    refine lv_idiv hx hb dX6_moveAll_34 (by decide) ?_
    refine lv_topi (fun x_13 ex_13 => ?_)
    refine lv_iconst (v := 4) hx hb dX6_moveAll_35 (by decide) ?_
    refine lv_irem hx hb dX6_moveAll_36 (by decide) ?_
    refine lv_topi (fun x_14 ex_14 => ?_)
    refine lv_if_ne (tgt := 67) hx hb dX6_moveAll_37 (by decide) (fun c_15 => ?_) (fun c_15 => ?_)
    · skip
      have uc_15 := i_ne (n := 0) (by decide) c_15
      refine lv_aload_n hx hb dX6_moveAll_67 rfl (lv_at hl 1 rfl) ?_
      refine t_gr hx hb hts hown hK hG hB mh0 th0 fq_6_2 rfl mw_2_69 dX6_moveAll_68 (fun b_16 hb_16 mb_16 tb_16 => ?_)
      refine lv_aload_n hx hb dX6_moveAll_71 rfl (lv_at hl 2 rfl) ?_
      refine lv_iload_n hx hb dX6_moveAll_72 rfl (lv_at hl 0 rfl) ?_
      obtain ⟨b_17, hb_17, mb_17, tb_17⟩ := hG b_16 mb_16 0 _ (by rw [tb_16]; rfl)
      refine t_ci (va_runV (As := [.ref h1, .int i_1]) (rest := []) ⟨hx, hb, hml, hown, hts⟩ (cy_X8_canGoUp_103 l D cA L T r hG hLA.1 σ_11 ρ_3 hB.2.1 _ b_16 mb_16 tb_16 h1 mh1 th1 i_1 b_17 hb_17 mb_17 tb_17 (by first | omega | decide) (by first | omega | decide)) (cV hts mv_X8_canGoUp mw_5_182 rfl rfl ⟨Nat.le_of_ble_eq_true rfl, Nat.le_of_ble_eq_true rfl⟩) (pV hB.1 hK hN mb_16 tb_16 (show shp cA 103 _ _ _ = .inr (8, Fs8 _ _ _) from rfl) rfl) rfl rfl hl.1 rfl (lv_room (Nat.le_of_ble_eq_true rfl)) dX6_moveAll_73 ⟨Nat.le_of_ble_eq_true rfl, Nat.le_of_ble_eq_true rfl⟩) hLA hA hB hS (by decide) (fun x_20 σ_18 ρ_19 H locs hB fσ_18 pσ_18 hS => ?_)
      have qσ_18 := FR.nil fσ_18
      subst qσ_18
      obtain ⟨ox_20, ix_20⟩ := pσ_18
      refine lv_if_eq (tgt := 98) hx hb dX6_moveAll_76 (by decide) (fun c_21 => ?_) (fun c_21 => ?_)
      · skip
        have uc_21 := i_eq (n := 0) (by decide) c_21
        obtain ⟨x_22, ex_22⟩ : ∃ y : Int32, y = i_1 + 1 := ⟨_, rfl⟩
        have vx_22 := b_add (rfl : i_1.toInt = _) (by decide : (1 : Int32).toInt = 1) ex_22 (by omega) (by omega)
        refine lv_iinc (v := x_22) (lv' := [(2, .int x_22), (0, .ref h0), (1, .ref h1)]) hx hb dX6_moveAll_98 hl (k := 0) rfl (by rw [ex_22]; rfl) (by decide) rfl (fun ls hl => ?_)
        refine lv_goto (tgt := 2) hx hb dX6_moveAll_101 (by decide) ?_
        exact ih_4 ⟨x_22, σ_11, ρ_19⟩ _ _ _ ⟨(by omega), (by omega), hB, hS, lv_sub hl [0, 1, 2] rfl⟩ (by show (4 - x_22.toInt).toNat < (4 - i_1.toInt).toNat; omega)
      · skip
        have uc_21 := i_ne (n := 0) (by decide) c_21
        refine lv_aload_n hx hb dX6_moveAll_79 rfl (lv_at hl 1 rfl) ?_
        refine t_gk hx hb hts hown hK hB mh0 th0 fq_6_2 hb_16 mw_2_69 dX6_moveAll_80 ?_
        refine lv_aload_n hx hb dX6_moveAll_83 rfl (lv_at hl 2 rfl) ?_
        refine lv_iload_n hx hb dX6_moveAll_84 rfl (lv_at hl 0 rfl) ?_
        refine t_cv (va_runV (As := [.ref h1, .int i_1]) (rest := []) ⟨hx, hb, hml, hown, hts⟩ (cy_X8_goUp_103 l D cA L T r hG hLA.1 σ_11 ρ_19 hB.2.1 _ b_16 mb_16 tb_16 h1 mh1 th1 i_1 b_17 hb_17 mb_17 tb_17 (by first | omega | decide) (by first | omega | decide) (by omega)) (cV hts mv_X8_goUp mw_5_183 rfl rfl ⟨Nat.le_of_ble_eq_true rfl, Nat.le_of_ble_eq_true rfl⟩) (pV hB.1 hK hN mb_16 tb_16 (show shp cA 103 _ _ _ = .inr (8, Fs8 _ _ _) from rfl) rfl) rfl rfl hl.1 rfl (lv_room (Nat.le_of_ble_eq_true rfl)) dX6_moveAll_85 ⟨Nat.le_of_ble_eq_true rfl, Nat.le_of_ble_eq_true rfl⟩) hLA hA hB hS (by decide) (fun σ_23 ρ_24 H locs hB fσ_23 pσ_23 hS => ?_)
        refine lv_aload_n hx hb dX6_moveAll_88 rfl (lv_at hl 1 rfl) ?_
        refine lv_dup hx hb dX6_moveAll_89 rfl ?_
        refine t_gi hx hb hts hown hK hB mh0 th0 fi_6_5 rfl mw_2_73 dX6_moveAll_90 (fun x_26 ex_26 lx_26 ux_26 => ?_)
        refine lv_iconst (v := 1) hx hb dX6_moveAll_93 (by decide) ?_
        refine lv_iadd hx hb dX6_moveAll_94 ?_
        refine lv_topi (fun x_27 ex_27 => ?_)
        refine t_pi hx hb hts hown hK hLA hB hS mh0 th0 fi_6_5 rfl rfl rfl (i_lo _) (i_hi _) (Or.inl (by decide)) mw_2_73 dX6_moveAll_95 (fun H locs σ_28 eσ_28 hB hS => ?_)
        have k_29 : σ_28 h0 5 = x_27 := by rw [eσ_28]; exact up2_same _ _ _ _
        obtain ⟨x_30, ex_30⟩ : ∃ y : Int32, y = i_1 + 1 := ⟨_, rfl⟩
        have vx_30 := b_add (rfl : i_1.toInt = _) (by decide : (1 : Int32).toInt = 1) ex_30 (by omega) (by omega)
        refine lv_iinc (v := x_30) (lv' := [(2, .int x_30), (0, .ref h0), (1, .ref h1)]) hx hb dX6_moveAll_98 hl (k := 0) rfl (by rw [ex_30]; rfl) (by decide) rfl (fun ls hl => ?_)
        refine lv_goto (tgt := 2) hx hb dX6_moveAll_101 (by decide) ?_
        exact ih_4 ⟨x_30, σ_28, ρ_24⟩ _ _ _ ⟨(by omega), (by omega), hB, hS, lv_sub hl [0, 1, 2] rfl⟩ (by show (4 - x_30.toInt).toNat < (4 - i_1.toInt).toNat; omega)
    · skip
      have uc_15 := i_eq (n := 0) (by decide) c_15
      refine lv_aload_n hx hb dX6_moveAll_40 rfl (lv_at hl 1 rfl) ?_
      refine t_gr hx hb hts hown hK hG hB mh0 th0 fq_6_2 rfl mw_2_69 dX6_moveAll_41 (fun b_31 hb_31 mb_31 tb_31 => ?_)
      refine t_gr hx hb hts hown hK hG hB mb_31 tb_31 fq_103_0 rfl mw_1_83 dX6_moveAll_44 (fun b_32 hb_32 mb_32 tb_32 => ?_)
      refine lv_iload_n hx hb dX6_moveAll_47 rfl (lv_at hl 0 rfl) ?_
      refine lv_iconst (v := 0) hx hb dX6_moveAll_48 (by decide) ?_
      refine lv_aload_n hx hb dX6_moveAll_49 rfl (lv_at hl 1 rfl) ?_
      refine t_gk hx hb hts hown hK hB mh0 th0 fq_6_2 hb_31 mw_2_69 dX6_moveAll_50 ?_
      refine t_gk hx hb hts hown hK hB mb_31 tb_31 fq_103_0 hb_32 mw_1_83 dX6_moveAll_53 ?_
      refine lv_iload_n hx hb dX6_moveAll_56 rfl (lv_at hl 0 rfl) ?_
      refine t_ai hx hb hK hB mb_32 tb_32 ai_125 (fun _ => rfl) (i_in (by omega) (by omega)) dX6_moveAll_57 (fun x_33 ex_33 lx_33 ux_33 => ?_)
      refine lv_iconst (v := 1) hx hb dX6_moveAll_58 (by decide) ?_
      refine lv_isub hx hb dX6_moveAll_59 ?_
      refine lv_topi (fun x_34 ex_34 => ?_)
      have vx_34 := b_sub (rfl : x_33.toInt = _) (by decide : (1 : Int32).toInt = 1) ex_34 (by omega) (by omega)
      refine va_mmax hx hb (hml.trans hl.1.symm) hown (hts _ mw_5_181) (hts _ mw_3_120) (hts _ mw_1_18) (hts _ mw_3_121) (Nat.le_of_ble_eq_true rfl) (Nat.le_of_ble_eq_true rfl) (Nat.zero_le _) (Nat.zero_le _) dX6_moveAll_60 ?_
      refine lv_topi (fun x_35 ex_35 => ?_)
      obtain ⟨lx_35, mx_35, ux_35⟩ := m_max (by decide : (0 : Int32).toInt = 0) (rfl : x_34.toInt = _) ex_35
      refine t_si hx hb hK hLA hB hS mb_32 tb_32 ai_125 (i_in (by omega) (by omega)) (by show 0 ≤ _; omega) (by show _ ≤ 8; omega) (Or.inr (by decide)) dX6_moveAll_63 (fun H locs σ_36 eσ_36 hB hS => ?_)
      have k_37 : σ_36 b_32 i_1.toNatClampNeg = x_35 := by rw [eσ_36]; exact up2_same _ _ _ _
      refine lv_goto (tgt := 98) hx hb dX6_moveAll_64 (by decide) ?_
      obtain ⟨x_38, ex_38⟩ : ∃ y : Int32, y = i_1 + 1 := ⟨_, rfl⟩
      have vx_38 := b_add (rfl : i_1.toInt = _) (by decide : (1 : Int32).toInt = 1) ex_38 (by omega) (by omega)
      refine lv_iinc (v := x_38) (lv' := [(2, .int x_38), (0, .ref h0), (1, .ref h1)]) hx hb dX6_moveAll_98 hl (k := 0) rfl (by rw [ex_38]; rfl) (by decide) rfl (fun ls hl => ?_)
      refine lv_goto (tgt := 2) hx hb dX6_moveAll_101 (by decide) ?_
      exact ih_4 ⟨x_38, σ_36, ρ_3⟩ _ _ _ ⟨(by omega), (by omega), hB, hS, lv_sub hl [0, 1, 2] rfl⟩ (by show (4 - x_38.toInt).toNat < (4 - i_1.toInt).toNat; omega)
theorem mw_2_17 : (.fieldLink RX6 75 "HillBends$World" "x" "I" : Cond) ∈ wsA := wsA_t (List.mem_append_right _ (List.mem_append_left _ (List.mem_of_getElem? (l := tables_1_2) (i := 17) rfl))) rfl
theorem mw_2_71 : (.fieldLink RX6 81 "HillBends$Nights" "heights" "I" : Cond) ∈ wsA := wsA_t (List.mem_append_right _ (List.mem_append_left _ (List.mem_of_getElem? (l := tables_1_2) (i := 71) rfl))) rfl
theorem mw_1_238 : (.fieldLink RX6 87 "HillBends$World" "now" "LHillBends$Scene;" : Cond) ∈ wsA := wsA_t (List.mem_append_left _ (List.mem_of_getElem? (l := tables_1_1) (i := 238) rfl)) rfl
theorem mw_5_173 : (.methodLink RX6 90 yX8_copyFrom : Cond) ∈ wsA := wsA_t (List.mem_append_right _ (List.mem_append_right _ (List.mem_append_right _ (List.mem_append_right _ (List.mem_append_left _ (List.mem_of_getElem? (l := tables_1_5) (i := 173) rfl)))))) rfl
theorem mw_1_235 : (.fieldLink RX6 94 "HillBends$World" "hill" "LHillBends$Hill;" : Cond) ∈ wsA := wsA_t (List.mem_append_left _ (List.mem_of_getElem? (l := tables_1_1) (i := 235) rfl)) rfl
theorem mw_5_176 : (.instanceMethod yX6_moveAll : Cond) ∈ wsA := wsA_t (List.mem_append_right _ (List.mem_append_right _ (List.mem_append_right _ (List.mem_append_right _ (List.mem_append_left _ (List.mem_of_getElem? (l := tables_1_5) (i := 176) rfl)))))) rfl
theorem mp_3_9 : (.selects RX6 yX6_moveAll yX6_moveAll : Cond) ∈ wsA := wsA_p (q := (yX6_moveAll, 6)) (List.mem_append_right _ (List.mem_append_right _ (List.mem_append_left _ (List.mem_of_getElem? (l := lw_privs_3) (i := 9) rfl))))
theorem mw_5_177 : (.code yX6_moveAll cX6_moveAll 3 none : Cond) ∈ wsA := wsA_t (List.mem_append_right _ (List.mem_append_right _ (List.mem_append_right _ (List.mem_append_right _ (List.mem_append_left _ (List.mem_of_getElem? (l := tables_1_5) (i := 177) rfl)))))) rfl
theorem mw_5_174 : (.methodLink RX6 98 yX6_moveAll : Cond) ∈ wsA := wsA_t (List.mem_append_right _ (List.mem_append_right _ (List.mem_append_right _ (List.mem_append_right _ (List.mem_append_left _ (List.mem_of_getElem? (l := tables_1_5) (i := 174) rfl)))))) rfl
theorem mw_4_115 : (.instanceMethod yX6_pass : Cond) ∈ wsA := wsA_t (List.mem_append_right _ (List.mem_append_right _ (List.mem_append_right _ (List.mem_append_left _ (List.mem_of_getElem? (l := tables_1_4) (i := 115) rfl))))) rfl
theorem mw_4_116 : (.selects RX6 yX6_pass yX6_pass : Cond) ∈ wsA := wsA_t (List.mem_append_right _ (List.mem_append_right _ (List.mem_append_right _ (List.mem_append_left _ (List.mem_of_getElem? (l := tables_1_4) (i := 116) rfl))))) rfl
theorem mw_4_117 : (.code yX6_pass cX6_pass 7 none : Cond) ∈ wsA := wsA_t (List.mem_append_right _ (List.mem_append_right _ (List.mem_append_right _ (List.mem_append_left _ (List.mem_of_getElem? (l := tables_1_4) (i := 117) rfl))))) rfl
theorem mw_5_184 : (.methodLink RX6 102 yX6_pass : Cond) ∈ wsA := wsA_t (List.mem_append_right _ (List.mem_append_right _ (List.mem_append_right _ (List.mem_append_right _ (List.mem_append_left _ (List.mem_of_getElem? (l := tables_1_5) (i := 184) rfl)))))) rfl
theorem dX6_runYears_0 : decode cX6_runYears 0 = .ok (.aload_n 0, 1) := by decide +kernel
theorem dX6_runYears_1 : decode cX6_runYears 1 = .ok (.aload_n 1, 1) := by decide +kernel
theorem dX6_runYears_2 : decode cX6_runYears 2 = .ok (.getfield 75, 3) := by decide +kernel
theorem dX6_runYears_5 : decode cX6_runYears 5 = .ok (.putfield 80, 3) := by decide +kernel
theorem dX6_runYears_8 : decode cX6_runYears 8 = .ok (.aload_n 0, 1) := by decide +kernel
theorem dX6_runYears_9 : decode cX6_runYears 9 = .ok (.iconst 0, 1) := by decide +kernel
theorem dX6_runYears_10 : decode cX6_runYears 10 = .ok (.putfield 81, 3) := by decide +kernel
theorem dX6_runYears_13 : decode cX6_runYears 13 = .ok (.aload_n 0, 1) := by decide +kernel
theorem dX6_runYears_14 : decode cX6_runYears 14 = .ok (.iconst 0, 1) := by decide +kernel
theorem dX6_runYears_15 : decode cX6_runYears 15 = .ok (.putfield 84, 3) := by decide +kernel
theorem dX6_runYears_18 : decode cX6_runYears 18 = .ok (.iconst 0, 1) := by decide +kernel
theorem dX6_runYears_19 : decode cX6_runYears 19 = .ok (.istore 5, 2) := by decide +kernel
theorem dX6_runYears_21 : decode cX6_runYears 21 = .ok (.iload 5, 2) := by decide +kernel
theorem dX6_runYears_23 : decode cX6_runYears 23 = .ok (.iload_n 3, 1) := by decide +kernel
theorem dX6_runYears_24 : decode cX6_runYears 24 = .ok (.if_icmp .ge 97, 3) := by decide +kernel
theorem dX6_runYears_121 : decode cX6_runYears 121 = .ok (.return_, 1) := by decide +kernel
theorem dX6_runYears_27 : decode cX6_runYears 27 = .ok (.aload_n 0, 1) := by decide +kernel
theorem dX6_runYears_28 : decode cX6_runYears 28 = .ok (.getfield 23, 3) := by decide +kernel
theorem dX6_runYears_31 : decode cX6_runYears 31 = .ok (.aload_n 1, 1) := by decide +kernel
theorem dX6_runYears_32 : decode cX6_runYears 32 = .ok (.getfield 87, 3) := by decide +kernel
theorem dX6_runYears_35 : decode cX6_runYears 35 = .ok (.invokevirtual 90, 3) := by decide +kernel
theorem dX6_runYears_38 : decode cX6_runYears 38 = .ok (.iconst 0, 1) := by decide +kernel
theorem dX6_runYears_39 : decode cX6_runYears 39 = .ok (.istore 6, 2) := by decide +kernel
theorem dX6_runYears_41 : decode cX6_runYears 41 = .ok (.iload 6, 2) := by decide +kernel
theorem dX6_runYears_43 : decode cX6_runYears 43 = .ok (.iload 4, 2) := by decide +kernel
theorem dX6_runYears_45 : decode cX6_runYears 45 = .ok (.if_icmp .ge 30, 3) := by decide +kernel
theorem dX6_runYears_75 : decode cX6_runYears 75 = .ok (.iconst 0, 1) := by decide +kernel
theorem dX6_runYears_76 : decode cX6_runYears 76 = .ok (.istore 6, 2) := by decide +kernel
theorem dX6_runYears_78 : decode cX6_runYears 78 = .ok (.iload 6, 2) := by decide +kernel
theorem dX6_runYears_80 : decode cX6_runYears 80 = .ok (.aload_n 1, 1) := by decide +kernel
theorem dX6_runYears_81 : decode cX6_runYears 81 = .ok (.getfield 94, 3) := by decide +kernel
theorem dX6_runYears_84 : decode cX6_runYears 84 = .ok (.getfield 69, 3) := by decide +kernel
theorem dX6_runYears_87 : decode cX6_runYears 87 = .ok (.if_icmp .ge 28, 3) := by decide +kernel
theorem dX6_runYears_115 : decode cX6_runYears 115 = .ok (.iinc 5 1, 3) := by decide +kernel
theorem dX6_runYears_118 : decode cX6_runYears 118 = .ok (.goto (-97), 3) := by decide +kernel
theorem dX6_runYears_90 : decode cX6_runYears 90 = .ok (.aload_n 0, 1) := by decide +kernel
theorem dX6_runYears_91 : decode cX6_runYears 91 = .ok (.dup, 1) := by decide +kernel
theorem dX6_runYears_92 : decode cX6_runYears 92 = .ok (.getfield 81, 3) := by decide +kernel
theorem dX6_runYears_95 : decode cX6_runYears 95 = .ok (.aload_n 0, 1) := by decide +kernel
theorem dX6_runYears_96 : decode cX6_runYears 96 = .ok (.getfield 23, 3) := by decide +kernel
theorem dX6_runYears_99 : decode cX6_runYears 99 = .ok (.getfield 72, 3) := by decide +kernel
theorem dX6_runYears_102 : decode cX6_runYears 102 = .ok (.iload 6, 2) := by decide +kernel
theorem dX6_runYears_104 : decode cX6_runYears 104 = .ok (.iaload, 1) := by decide +kernel
theorem dX6_runYears_105 : decode cX6_runYears 105 = .ok (.iadd, 1) := by decide +kernel
theorem dX6_runYears_106 : decode cX6_runYears 106 = .ok (.putfield 81, 3) := by decide +kernel
theorem dX6_runYears_109 : decode cX6_runYears 109 = .ok (.iinc 6 1, 3) := by decide +kernel
theorem dX6_runYears_112 : decode cX6_runYears 112 = .ok (.goto (-34), 3) := by decide +kernel
theorem dX6_runYears_48 : decode cX6_runYears 48 = .ok (.aload_n 0, 1) := by decide +kernel
theorem dX6_runYears_49 : decode cX6_runYears 49 = .ok (.aload_n 1, 1) := by decide +kernel
theorem dX6_runYears_50 : decode cX6_runYears 50 = .ok (.getfield 94, 3) := by decide +kernel
theorem dX6_runYears_53 : decode cX6_runYears 53 = .ok (.invokevirtual 98, 3) := by decide +kernel
theorem dX6_runYears_56 : decode cX6_runYears 56 = .ok (.aload_n 0, 1) := by decide +kernel
theorem dX6_runYears_57 : decode cX6_runYears 57 = .ok (.aload_n 1, 1) := by decide +kernel
theorem dX6_runYears_58 : decode cX6_runYears 58 = .ok (.getfield 94, 3) := by decide +kernel
theorem dX6_runYears_61 : decode cX6_runYears 61 = .ok (.aload_n 0, 1) := by decide +kernel
theorem dX6_runYears_62 : decode cX6_runYears 62 = .ok (.getfield 23, 3) := by decide +kernel
theorem dX6_runYears_65 : decode cX6_runYears 65 = .ok (.aload_n 2, 1) := by decide +kernel
theorem dX6_runYears_66 : decode cX6_runYears 66 = .ok (.invokevirtual 102, 3) := by decide +kernel
theorem dX6_runYears_69 : decode cX6_runYears 69 = .ok (.iinc 6 1, 3) := by decide +kernel
theorem dX6_runYears_72 : decode cX6_runYears 72 = .ok (.goto (-31), 3) := by decide +kernel
theorem mv_X6_moveAll : MV RX6 yX6_moveAll cX6_moveAll 3 none 1 := ⟨mw_5_176, mp_3_9, mw_1_8, mw_5_177, ⟨rfl, by decide, by decide, by decide +kernel⟩⟩
theorem mv_X6_pass : MV RX6 yX6_pass cX6_pass 7 none 3 := ⟨mw_4_115, mw_4_116, mw_1_8, mw_4_117, ⟨rfl, by decide, by decide, by decide +kernel⟩⟩
set_option maxHeartbeats 4000000 in
set_option maxRecDepth 100000 in
theorem cy_X6_runYears_7 (l : Launch) (D : va_G) (cA : Nat → ClassId) (L : List Nat) (T : Nat → Nat) (r : Rg) (hG : GR L T r) (hL : L.Nodup) (σ : Sg) (ρ : Lg) (hW : WT L ry T σ) (sz : Nat) (h0 : Nat) (mh0 : h0 ∈ L) (th0 : T h0 = 6) (h1 : Nat) (mh1 : h1 ∈ L) (th1 : T h1 = 10) (h2 : Nat) (mh2 : h2 ∈ L) (th2 : T h2 = 7) (p3 : Int32) (p4 : Int32) (w0 : 1 ≤ p3.toInt) (w1 : p3.toInt ≤ 10) (w2 : 1 ≤ p4.toInt) (w3 : p4.toInt ≤ 60) : Met l yX6_runYears (.code yX6_runYears cX6_runYears 7 none :: wsA) ({ frames := 4, cells := 0, slots := 0, locals := 121 }) (PR D cA L T r σ ρ sz [.ref h0, .ref h1, .ref h2, .int p3, .int p4]) (QV D cA L T r ry [(6, 3), (6, 4), (6, 5), (103, 6), (103, 7), (125, 1000), (126, 1000), (127, 1000), (128, 1000), (129, 1000), (130, 1000)] σ sz (fun σ1 => True)) 0 0 (dm L sz) := by
  refine Met.ofW (cc := cX6_runYears) (maxL := 7) (ret := none) (by decide) rfl ?_
  intro p e s m args below meth c s₁ B hml hv
  obtain ⟨rfl, hsz, hP, hK, hN⟩ := hv
  have hx := B.exec
  have hb := B.bytes
  have hr := B.returns
  have hts : ∀ w ∈ wsA, w.before _ s = true := fun w h => atoms_spec (ws := .code yX6_runYears cX6_runYears 7 none :: wsA) B.pre w (List.mem_cons_of_mem _ h)
  have hown : s.vm.findClass RX6 = some m.cls := findClass_of_methodNamed B.named
  subst hsz
  have hLA : LA (dm L s.heap.size) L := ⟨hL, fun a h => Or.inl h⟩
  have hA : ∀ q : Nat, s.heap.size ≤ q → dm L s.heap.size q := fun q h => Or.inr h
  have hS : va_S (dm L s.heap.size) s.heap s.heap [] := va_S.rf
  have hB : TS D cA L T r ry [(6, 3), (6, 4), (6, 5), (103, 6), (103, 7), (125, 1000), (126, 1000), (127, 1000), (128, 1000), (129, 1000), (130, 1000)] σ σ ρ s.heap := ⟨hP, hW, FR.rf⟩
  have hl := lv_entry ([.ref h0, .ref h1, .ref h2, .int p3, .int p4]) (n := 7) (Nat.le_of_ble_eq_true rfl)
  rw [lg_entry_eq]
  generalize (lg_sl ([.ref h0, .ref h1, .ref h2, .int p3, .int p4]) ++ List.replicate (7 - (lg_sl ([.ref h0, .ref h1, .ref h2, .int p3, .int p4])).length) Slot.unset).toArray = ls at hl ⊢
  have hl : lv_has ls 7 [(0, .ref h0), (1, .ref h1), (2, .ref h2), (3, .int p3), (4, .int p4)] := hl
  refine lv_aload_n hx hb dX6_runYears_0 rfl (lv_at hl 0 rfl) ?_
  refine lv_aload_n hx hb dX6_runYears_1 rfl (lv_at hl 1 rfl) ?_
  refine t_gi hx hb hts hown hK hB mh1 th1 fi_10_8 rfl mw_2_17 dX6_runYears_2 (fun x_1 ex_1 lx_1 ux_1 => ?_)
  refine t_pi hx hb hts hown hK hLA hB hS mh0 th0 fi_6_3 rfl rfl rfl (i_lo _) (i_hi _) (Or.inl (by decide)) mw_2_70 dX6_runYears_5 (fun H locs σ_2 eσ_2 hB hS => ?_)
  have k_3 : σ_2 h0 3 = x_1 := by rw [eσ_2]; exact up2_same _ _ _ _
  refine lv_aload_n hx hb dX6_runYears_8 rfl (lv_at hl 0 rfl) ?_
  refine lv_iconst (v := 0) hx hb dX6_runYears_9 (by decide) ?_
  refine t_pi hx hb hts hown hK hLA hB hS mh0 th0 fi_6_4 rfl rfl rfl (i_lo _) (i_hi _) (Or.inl (by decide)) mw_2_71 dX6_runYears_10 (fun H locs σ_4 eσ_4 hB hS => ?_)
  have k_5 : σ_4 h0 4 = 0 := by rw [eσ_4]; exact up2_same _ _ _ _
  refine lv_aload_n hx hb dX6_runYears_13 rfl (lv_at hl 0 rfl) ?_
  refine lv_iconst (v := 0) hx hb dX6_runYears_14 (by decide) ?_
  refine t_pi hx hb hts hown hK hLA hB hS mh0 th0 fi_6_5 rfl rfl rfl (i_lo _) (i_hi _) (Or.inl (by decide)) mw_2_73 dX6_runYears_15 (fun H locs σ_6 eσ_6 hB hS => ?_)
  have k_7 : σ_6 h0 5 = 0 := by rw [eσ_6]; exact up2_same _ _ _ _
  refine lv_iconst (v := 0) hx hb dX6_runYears_18 (by decide) ?_
  refine lv_istore (lv' := [(5, .int 0), (0, .ref h0), (1, .ref h1), (2, .ref h2), (3, .int p3), (4, .int p4)]) hx hb dX6_runYears_19 hl (by decide) rfl (fun ls hl => ?_)
  have k_8 : σ_2 h1 8 = x_1 := by rw [eσ_2, up2_nej _ _ (by decide)]; exact ex_1.symm
  have k_9 : σ_4 h1 8 = x_1 := by rw [eσ_4, up2_nej _ _ (by decide)]; exact k_8
  have k_10 : σ_6 h1 8 = x_1 := by rw [eσ_6, up2_nej _ _ (by decide)]; exact k_9
  refine w_loop (α := Int32 × Sg × Lg) (fun (i_11, σ_12, ρ_13) H locs ls => 0 ≤ i_11.toInt ∧ i_11.toInt ≤ 10 ∧ σ_12 h1 8 = x_1 ∧ TS D cA L T r ry [(6, 3), (6, 4), (6, 5), (103, 6), (103, 7), (125, 1000), (126, 1000), (127, 1000), (128, 1000), (129, 1000), (130, 1000)] σ σ_12 ρ_13 H ∧ va_S (dm L s.heap.size) s.heap H locs ∧ lv_has ls 7 [(5, .int i_11), (0, .ref h0), (1, .ref h1), (2, .ref h2), (3, .int p3), (4, .int p4)]) (fun (i_11, σ_12, ρ_13) => (10 - i_11.toInt).toNat) ?_ ⟨0, σ_6, ρ⟩ ⟨(by decide), (by decide), k_10, hB, hS, lv_sub hl [0, 1, 2, 3, 4, 5] rfl⟩
  rintro ⟨i_11, σ_12, ρ_13⟩ H locs ls ⟨li_11, ui_11, k_15, hB, hS, hl⟩ ih_14
  refine lv_iload hx hb dX6_runYears_21 (lv_at hl 0 rfl) ?_
  refine lv_iload_n hx hb dX6_runYears_23 rfl (lv_at hl 4 rfl) ?_
  refine lv_icmp_ge (tgt := 121) hx hb dX6_runYears_24 (by decide) (fun c_16 => ?_) (fun c_16 => ?_)
  · skip
    have uc_16 := j_le c_16
    exact W.vret hx hb hr (fun t ht hW => ⟨⟨(σ_12, ρ_13), rfl, ⟨hB.2.1, hB.2.2, trivial⟩, (show TP D cA L T r σ_12 ρ_13 t.heap from by rw [ht]; exact hB.1)⟩, hS.F ht⟩) hS.2.2 dX6_runYears_121
  · skip
    have uc_16 := j_nle c_16
    refine lv_aload_n hx hb dX6_runYears_27 rfl (lv_at hl 1 rfl) ?_
    refine t_gr hx hb hts hown hK hG hB mh0 th0 fq_6_2 rfl mw_2_69 dX6_runYears_28 (fun b_17 hb_17 mb_17 tb_17 => ?_)
    refine lv_aload_n hx hb dX6_runYears_31 rfl (lv_at hl 2 rfl) ?_
    refine t_gr hx hb hts hown hK hG hB mh1 th1 fq_10_1 rfl mw_1_238 dX6_runYears_32 (fun b_18 hb_18 mb_18 tb_18 => ?_)
    refine t_cv (va_runV (As := [.ref b_18]) (rest := []) ⟨hx, hb, hml, hown, hts⟩ (cy_X8_copyFrom_103_8 l D cA L T r hG hLA.1 σ_12 ρ_13 hB.2.1 _ b_17 mb_17 tb_17 b_18 mb_18 tb_18) (cV hts mv_X8_copyFrom mw_5_173 rfl rfl ⟨Nat.le_of_ble_eq_true rfl, Nat.le_of_ble_eq_true rfl⟩) (pV hB.1 hK hN mb_17 tb_17 (show shp cA 103 _ _ _ = .inr (8, Fs8 _ _ _) from rfl) rfl) rfl rfl hl.1 rfl (lv_room (Nat.le_of_ble_eq_true rfl)) dX6_runYears_35 ⟨Nat.le_of_ble_eq_true rfl, Nat.le_of_ble_eq_true rfl⟩) hLA hA hB hS (by decide) (fun σ_19 ρ_20 H locs hB fσ_19 pσ_19 hS => ?_)
    refine lv_iconst (v := 0) hx hb dX6_runYears_38 (by decide) ?_
    refine lv_istore (lv' := [(6, .int 0), (5, .int i_11), (0, .ref h0), (1, .ref h1), (2, .ref h2), (3, .int p3), (4, .int p4)]) hx hb dX6_runYears_39 hl (by decide) rfl (fun ls hl => ?_)
    have k_22 : σ_19 h1 8 = x_1 := (FR.at fσ_19 th1 (by decide)).trans k_15
    refine w_loop (α := Int32 × Sg × Lg) (fun (i_23, σ_24, ρ_25) H locs ls => 0 ≤ i_23.toInt ∧ i_23.toInt ≤ 60 ∧ σ_24 h1 8 = x_1 ∧ TS D cA L T r ry [(6, 3), (6, 4), (6, 5), (103, 6), (103, 7), (125, 1000), (126, 1000), (127, 1000), (128, 1000), (129, 1000), (130, 1000)] σ σ_24 ρ_25 H ∧ va_S (dm L s.heap.size) s.heap H locs ∧ lv_has ls 7 [(6, .int i_23), (5, .int i_11), (0, .ref h0), (1, .ref h1), (2, .ref h2), (3, .int p3), (4, .int p4)]) (fun (i_23, σ_24, ρ_25) => (60 - i_23.toInt).toNat) ?_ ⟨0, σ_19, ρ_20⟩ ⟨(by decide), (by decide), k_22, hB, hS, lv_sub hl [0, 1, 2, 3, 4, 5, 6] rfl⟩
    rintro ⟨i_23, σ_24, ρ_25⟩ H locs ls ⟨li_23, ui_23, k_27, hB, hS, hl⟩ ih_26
    refine lv_iload hx hb dX6_runYears_41 (lv_at hl 0 rfl) ?_
    refine lv_iload hx hb dX6_runYears_43 (lv_at hl 6 rfl) ?_
    refine lv_icmp_ge (tgt := 75) hx hb dX6_runYears_45 (by decide) (fun c_28 => ?_) (fun c_28 => ?_)
    · skip
      have uc_28 := j_le c_28
      refine lv_iconst (v := 0) hx hb dX6_runYears_75 (by decide) ?_
      refine lv_istore (lv' := [(6, .int 0), (5, .int i_11), (0, .ref h0), (1, .ref h1), (2, .ref h2), (3, .int p3), (4, .int p4)]) hx hb dX6_runYears_76 hl (by decide) rfl (fun ls hl => ?_)
      refine w_loop (α := Int32 × Sg × Lg) (fun (i_29, σ_30, ρ_31) H locs ls => 0 ≤ i_29.toInt ∧ i_29.toInt ≤ 4 ∧ σ_30 h1 8 = x_1 ∧ TS D cA L T r ry [(6, 3), (6, 4), (6, 5), (103, 6), (103, 7), (125, 1000), (126, 1000), (127, 1000), (128, 1000), (129, 1000), (130, 1000)] σ σ_30 ρ_31 H ∧ va_S (dm L s.heap.size) s.heap H locs ∧ lv_has ls 7 [(6, .int i_29), (5, .int i_11), (0, .ref h0), (1, .ref h1), (2, .ref h2), (3, .int p3), (4, .int p4)]) (fun (i_29, σ_30, ρ_31) => (4 - i_29.toInt).toNat) ?_ ⟨0, σ_24, ρ_25⟩ ⟨(by decide), (by decide), k_27, hB, hS, lv_sub hl [0, 1, 2, 3, 4, 5, 6] rfl⟩
      rintro ⟨i_29, σ_30, ρ_31⟩ H locs ls ⟨li_29, ui_29, k_33, hB, hS, hl⟩ ih_32
      refine lv_iload hx hb dX6_runYears_78 (lv_at hl 0 rfl) ?_
      refine lv_aload_n hx hb dX6_runYears_80 rfl (lv_at hl 3 rfl) ?_
      refine t_gr hx hb hts hown hK hG hB mh1 th1 fq_10_0 rfl mw_1_235 dX6_runYears_81 (fun b_34 hb_34 mb_34 tb_34 => ?_)
      refine t_gi hx hb hts hown hK hB mb_34 tb_34 fi_3_10 rfl mw_1_186 dX6_runYears_84 (fun x_35 ex_35 lx_35 ux_35 => ?_)
      refine lv_icmp_ge (tgt := 115) hx hb dX6_runYears_87 (by decide) (fun c_36 => ?_) (fun c_36 => ?_)
      · skip
        have uc_36 := j_le c_36
        obtain ⟨x_37, ex_37⟩ : ∃ y : Int32, y = i_11 + 1 := ⟨_, rfl⟩
        have vx_37 := b_add (rfl : i_11.toInt = _) (by decide : (1 : Int32).toInt = 1) ex_37 (by omega) (by omega)
        refine lv_iinc (v := x_37) (lv' := [(5, .int x_37), (6, .int i_29), (0, .ref h0), (1, .ref h1), (2, .ref h2), (3, .int p3), (4, .int p4)]) hx hb dX6_runYears_115 hl (k := 1) rfl (by rw [ex_37]; rfl) (by decide) rfl (fun ls hl => ?_)
        refine lv_goto (tgt := 21) hx hb dX6_runYears_118 (by decide) ?_
        exact ih_14 ⟨x_37, σ_30, ρ_31⟩ _ _ _ ⟨(by omega), (by omega), k_33, hB, hS, lv_sub hl [0, 2, 3, 4, 5, 6] rfl⟩ (by show (10 - x_37.toInt).toNat < (10 - i_11.toInt).toNat; omega)
      · skip
        have uc_36 := j_nle c_36
        refine lv_aload_n hx hb dX6_runYears_90 rfl (lv_at hl 2 rfl) ?_
        refine lv_dup hx hb dX6_runYears_91 rfl ?_
        refine t_gi hx hb hts hown hK hB mh0 th0 fi_6_4 rfl mw_2_71 dX6_runYears_92 (fun x_38 ex_38 lx_38 ux_38 => ?_)
        refine lv_aload_n hx hb dX6_runYears_95 rfl (lv_at hl 2 rfl) ?_
        refine t_gk hx hb hts hown hK hB mh0 th0 fq_6_2 hb_17 mw_2_69 dX6_runYears_96 ?_
        refine t_gr hx hb hts hown hK hG hB mb_17 tb_17 fq_103_0 rfl mw_1_83 dX6_runYears_99 (fun b_39 hb_39 mb_39 tb_39 => ?_)
        refine lv_iload hx hb dX6_runYears_102 (lv_at hl 0 rfl) ?_
        refine t_ai hx hb hK hB mb_39 tb_39 ai_125 (fun _ => rfl) (i_in (by omega) (by omega)) dX6_runYears_104 (fun x_40 ex_40 lx_40 ux_40 => ?_)
        refine lv_iadd hx hb dX6_runYears_105 ?_
        refine lv_topi (fun x_41 ex_41 => ?_)
        refine t_pi hx hb hts hown hK hLA hB hS mh0 th0 fi_6_4 rfl rfl rfl (i_lo _) (i_hi _) (Or.inl (by decide)) mw_2_71 dX6_runYears_106 (fun H locs σ_42 eσ_42 hB hS => ?_)
        have k_43 : σ_42 h0 4 = x_41 := by rw [eσ_42]; exact up2_same _ _ _ _
        obtain ⟨x_44, ex_44⟩ : ∃ y : Int32, y = i_29 + 1 := ⟨_, rfl⟩
        have vx_44 := b_add (rfl : i_29.toInt = _) (by decide : (1 : Int32).toInt = 1) ex_44 (by omega) (by omega)
        refine lv_iinc (v := x_44) (lv' := [(6, .int x_44), (5, .int i_11), (0, .ref h0), (1, .ref h1), (2, .ref h2), (3, .int p3), (4, .int p4)]) hx hb dX6_runYears_109 hl (k := 0) rfl (by rw [ex_44]; rfl) (by decide) rfl (fun ls hl => ?_)
        refine lv_goto (tgt := 78) hx hb dX6_runYears_112 (by decide) ?_
        have k_45 : σ_42 h1 8 = x_1 := by rw [eσ_42, up2_nej _ _ (by decide)]; exact k_33
        exact ih_32 ⟨x_44, σ_42, ρ_31⟩ _ _ _ ⟨(by omega), (by omega), k_45, hB, hS, lv_sub hl [0, 1, 2, 3, 4, 5, 6] rfl⟩ (by show (4 - x_44.toInt).toNat < (4 - i_29.toInt).toNat; omega)
    · skip
      have uc_28 := j_nle c_28
      refine lv_aload_n hx hb dX6_runYears_48 rfl (lv_at hl 2 rfl) ?_
      refine lv_aload_n hx hb dX6_runYears_49 rfl (lv_at hl 3 rfl) ?_
      refine t_gr hx hb hts hown hK hG hB mh1 th1 fq_10_0 rfl mw_1_235 dX6_runYears_50 (fun b_46 hb_46 mb_46 tb_46 => ?_)
      refine t_cv (va_runV (As := [.ref b_46]) (rest := []) ⟨hx, hb, hml, hown, hts⟩ (cy_X6_moveAll l D cA L T r hG hLA.1 σ_24 ρ_25 hB.2.1 _ h0 mh0 th0 b_46 mb_46 tb_46) (cV hts mv_X6_moveAll mw_5_174 rfl rfl ⟨Nat.le_of_ble_eq_true rfl, Nat.le_of_ble_eq_true rfl⟩) (pV hB.1 hK hN mh0 th0 (show shp cA 6 _ _ _ = .inr (6, Fs6 _ _ _) from rfl) rfl) rfl rfl hl.1 rfl (lv_room (Nat.le_of_ble_eq_true rfl)) dX6_runYears_53 ⟨Nat.le_of_ble_eq_true rfl, Nat.le_of_ble_eq_true rfl⟩) hLA hA hB hS (by decide) (fun σ_47 ρ_48 H locs hB fσ_47 pσ_47 hS => ?_)
      refine lv_aload_n hx hb dX6_runYears_56 rfl (lv_at hl 2 rfl) ?_
      refine lv_aload_n hx hb dX6_runYears_57 rfl (lv_at hl 3 rfl) ?_
      refine t_gk hx hb hts hown hK hB mh1 th1 fq_10_0 hb_46 mw_1_235 dX6_runYears_58 ?_
      refine lv_aload_n hx hb dX6_runYears_61 rfl (lv_at hl 2 rfl) ?_
      refine t_gk hx hb hts hown hK hB mh0 th0 fq_6_2 hb_17 mw_2_69 dX6_runYears_62 ?_
      refine lv_aload_n hx hb dX6_runYears_65 rfl (lv_at hl 4 rfl) ?_
      refine t_cv (va_runV (As := [.ref b_46, .ref b_17, .ref h2]) (rest := []) ⟨hx, hb, hml, hown, hts⟩ (cy_X6_pass_103_7 l D cA L T r hG hLA.1 σ_47 ρ_48 hB.2.1 _ h0 mh0 th0 b_46 mb_46 tb_46 b_17 mb_17 tb_17 h2 mh2 th2) (cV hts mv_X6_pass mw_5_184 rfl rfl ⟨Nat.le_of_ble_eq_true rfl, Nat.le_of_ble_eq_true rfl⟩) (pV hB.1 hK hN mh0 th0 (show shp cA 6 _ _ _ = .inr (6, Fs6 _ _ _) from rfl) rfl) rfl rfl hl.1 rfl (lv_room (Nat.le_of_ble_eq_true rfl)) dX6_runYears_66 ⟨Nat.le_of_ble_eq_true rfl, Nat.le_of_ble_eq_true rfl⟩) hLA hA hB hS (by decide) (fun σ_50 ρ_51 H locs hB fσ_50 pσ_50 hS => ?_)
      obtain ⟨x_53, ex_53⟩ : ∃ y : Int32, y = i_23 + 1 := ⟨_, rfl⟩
      have vx_53 := b_add (rfl : i_23.toInt = _) (by decide : (1 : Int32).toInt = 1) ex_53 (by omega) (by omega)
      refine lv_iinc (v := x_53) (lv' := [(6, .int x_53), (5, .int i_11), (0, .ref h0), (1, .ref h1), (2, .ref h2), (3, .int p3), (4, .int p4)]) hx hb dX6_runYears_69 hl (k := 0) rfl (by rw [ex_53]; rfl) (by decide) rfl (fun ls hl => ?_)
      refine lv_goto (tgt := 41) hx hb dX6_runYears_72 (by decide) ?_
      have k_54 : σ_47 h1 8 = x_1 := (FR.at fσ_47 th1 (by decide)).trans k_27
      have k_55 : σ_50 h1 8 = x_1 := (FR.at fσ_50 th1 (by decide)).trans k_54
      exact ih_26 ⟨x_53, σ_50, ρ_51⟩ _ _ _ ⟨(by omega), (by omega), k_55, hB, hS, lv_sub hl [0, 1, 2, 3, 4, 5, 6] rfl⟩ (by show (60 - x_53.toInt).toNat < (60 - i_23.toInt).toNat; omega)
set_option maxHeartbeats 4000000 in
set_option maxRecDepth 100000 in
theorem cy_X6_runYears_0 (l : Launch) (D : va_G) (cA : Nat → ClassId) (L : List Nat) (T : Nat → Nat) (r : Rg) (hG : GR L T r) (hL : L.Nodup) (σ : Sg) (ρ : Lg) (hW : WT L ry T σ) (sz : Nat) (h0 : Nat) (mh0 : h0 ∈ L) (th0 : T h0 = 6) (h1 : Nat) (mh1 : h1 ∈ L) (th1 : T h1 = 10) (p3 : Int32) (p4 : Int32) (w0 : 1 ≤ p3.toInt) (w1 : p3.toInt ≤ 10) (w2 : 1 ≤ p4.toInt) (w3 : p4.toInt ≤ 60) : Met l yX6_runYears (.code yX6_runYears cX6_runYears 7 none :: wsA) ({ frames := 3, cells := 0, slots := 0, locals := 121 }) (PR D cA L T r σ ρ sz [.ref h0, .ref h1, .null, .int p3, .int p4]) (QV D cA L T r ry [(6, 3), (6, 4), (6, 5), (103, 6), (103, 7), (125, 1000), (126, 1000), (127, 1000), (128, 1000), (129, 1000), (130, 1000)] σ sz (fun σ1 => True)) 0 0 (dm L sz) := by
  refine Met.ofW (cc := cX6_runYears) (maxL := 7) (ret := none) (by decide) rfl ?_
  intro p e s m args below meth c s₁ B hml hv
  obtain ⟨rfl, hsz, hP, hK, hN⟩ := hv
  have hx := B.exec
  have hb := B.bytes
  have hr := B.returns
  have hts : ∀ w ∈ wsA, w.before _ s = true := fun w h => atoms_spec (ws := .code yX6_runYears cX6_runYears 7 none :: wsA) B.pre w (List.mem_cons_of_mem _ h)
  have hown : s.vm.findClass RX6 = some m.cls := findClass_of_methodNamed B.named
  subst hsz
  have hLA : LA (dm L s.heap.size) L := ⟨hL, fun a h => Or.inl h⟩
  have hA : ∀ q : Nat, s.heap.size ≤ q → dm L s.heap.size q := fun q h => Or.inr h
  have hS : va_S (dm L s.heap.size) s.heap s.heap [] := va_S.rf
  have hB : TS D cA L T r ry [(6, 3), (6, 4), (6, 5), (103, 6), (103, 7), (125, 1000), (126, 1000), (127, 1000), (128, 1000), (129, 1000), (130, 1000)] σ σ ρ s.heap := ⟨hP, hW, FR.rf⟩
  have hl := lv_entry ([.ref h0, .ref h1, .null, .int p3, .int p4]) (n := 7) (Nat.le_of_ble_eq_true rfl)
  rw [lg_entry_eq]
  generalize (lg_sl ([.ref h0, .ref h1, .null, .int p3, .int p4]) ++ List.replicate (7 - (lg_sl ([.ref h0, .ref h1, .null, .int p3, .int p4])).length) Slot.unset).toArray = ls at hl ⊢
  have hl : lv_has ls 7 [(0, .ref h0), (1, .ref h1), (2, .null), (3, .int p3), (4, .int p4)] := hl
  refine lv_aload_n hx hb dX6_runYears_0 rfl (lv_at hl 0 rfl) ?_
  refine lv_aload_n hx hb dX6_runYears_1 rfl (lv_at hl 1 rfl) ?_
  refine t_gi hx hb hts hown hK hB mh1 th1 fi_10_8 rfl mw_2_17 dX6_runYears_2 (fun x_1 ex_1 lx_1 ux_1 => ?_)
  refine t_pi hx hb hts hown hK hLA hB hS mh0 th0 fi_6_3 rfl rfl rfl (i_lo _) (i_hi _) (Or.inl (by decide)) mw_2_70 dX6_runYears_5 (fun H locs σ_2 eσ_2 hB hS => ?_)
  have k_3 : σ_2 h0 3 = x_1 := by rw [eσ_2]; exact up2_same _ _ _ _
  refine lv_aload_n hx hb dX6_runYears_8 rfl (lv_at hl 0 rfl) ?_
  refine lv_iconst (v := 0) hx hb dX6_runYears_9 (by decide) ?_
  refine t_pi hx hb hts hown hK hLA hB hS mh0 th0 fi_6_4 rfl rfl rfl (i_lo _) (i_hi _) (Or.inl (by decide)) mw_2_71 dX6_runYears_10 (fun H locs σ_4 eσ_4 hB hS => ?_)
  have k_5 : σ_4 h0 4 = 0 := by rw [eσ_4]; exact up2_same _ _ _ _
  refine lv_aload_n hx hb dX6_runYears_13 rfl (lv_at hl 0 rfl) ?_
  refine lv_iconst (v := 0) hx hb dX6_runYears_14 (by decide) ?_
  refine t_pi hx hb hts hown hK hLA hB hS mh0 th0 fi_6_5 rfl rfl rfl (i_lo _) (i_hi _) (Or.inl (by decide)) mw_2_73 dX6_runYears_15 (fun H locs σ_6 eσ_6 hB hS => ?_)
  have k_7 : σ_6 h0 5 = 0 := by rw [eσ_6]; exact up2_same _ _ _ _
  refine lv_iconst (v := 0) hx hb dX6_runYears_18 (by decide) ?_
  refine lv_istore (lv' := [(5, .int 0), (0, .ref h0), (1, .ref h1), (2, .null), (3, .int p3), (4, .int p4)]) hx hb dX6_runYears_19 hl (by decide) rfl (fun ls hl => ?_)
  have k_8 : σ_2 h1 8 = x_1 := by rw [eσ_2, up2_nej _ _ (by decide)]; exact ex_1.symm
  have k_9 : σ_4 h1 8 = x_1 := by rw [eσ_4, up2_nej _ _ (by decide)]; exact k_8
  have k_10 : σ_6 h1 8 = x_1 := by rw [eσ_6, up2_nej _ _ (by decide)]; exact k_9
  refine w_loop (α := Int32 × Sg × Lg) (fun (i_11, σ_12, ρ_13) H locs ls => 0 ≤ i_11.toInt ∧ i_11.toInt ≤ 10 ∧ σ_12 h1 8 = x_1 ∧ TS D cA L T r ry [(6, 3), (6, 4), (6, 5), (103, 6), (103, 7), (125, 1000), (126, 1000), (127, 1000), (128, 1000), (129, 1000), (130, 1000)] σ σ_12 ρ_13 H ∧ va_S (dm L s.heap.size) s.heap H locs ∧ lv_has ls 7 [(5, .int i_11), (0, .ref h0), (1, .ref h1), (2, .null), (3, .int p3), (4, .int p4)]) (fun (i_11, σ_12, ρ_13) => (10 - i_11.toInt).toNat) ?_ ⟨0, σ_6, ρ⟩ ⟨(by decide), (by decide), k_10, hB, hS, lv_sub hl [0, 1, 2, 3, 4, 5] rfl⟩
  rintro ⟨i_11, σ_12, ρ_13⟩ H locs ls ⟨li_11, ui_11, k_15, hB, hS, hl⟩ ih_14
  refine lv_iload hx hb dX6_runYears_21 (lv_at hl 0 rfl) ?_
  refine lv_iload_n hx hb dX6_runYears_23 rfl (lv_at hl 4 rfl) ?_
  refine lv_icmp_ge (tgt := 121) hx hb dX6_runYears_24 (by decide) (fun c_16 => ?_) (fun c_16 => ?_)
  · skip
    have uc_16 := j_le c_16
    exact W.vret hx hb hr (fun t ht hW => ⟨⟨(σ_12, ρ_13), rfl, ⟨hB.2.1, hB.2.2, trivial⟩, (show TP D cA L T r σ_12 ρ_13 t.heap from by rw [ht]; exact hB.1)⟩, hS.F ht⟩) hS.2.2 dX6_runYears_121
  · skip
    have uc_16 := j_nle c_16
    refine lv_aload_n hx hb dX6_runYears_27 rfl (lv_at hl 1 rfl) ?_
    refine t_gr hx hb hts hown hK hG hB mh0 th0 fq_6_2 rfl mw_2_69 dX6_runYears_28 (fun b_17 hb_17 mb_17 tb_17 => ?_)
    refine lv_aload_n hx hb dX6_runYears_31 rfl (lv_at hl 2 rfl) ?_
    refine t_gr hx hb hts hown hK hG hB mh1 th1 fq_10_1 rfl mw_1_238 dX6_runYears_32 (fun b_18 hb_18 mb_18 tb_18 => ?_)
    refine t_cv (va_runV (As := [.ref b_18]) (rest := []) ⟨hx, hb, hml, hown, hts⟩ (cy_X8_copyFrom_103_8 l D cA L T r hG hLA.1 σ_12 ρ_13 hB.2.1 _ b_17 mb_17 tb_17 b_18 mb_18 tb_18) (cV hts mv_X8_copyFrom mw_5_173 rfl rfl ⟨Nat.le_of_ble_eq_true rfl, Nat.le_of_ble_eq_true rfl⟩) (pV hB.1 hK hN mb_17 tb_17 (show shp cA 103 _ _ _ = .inr (8, Fs8 _ _ _) from rfl) rfl) rfl rfl hl.1 rfl (lv_room (Nat.le_of_ble_eq_true rfl)) dX6_runYears_35 ⟨Nat.le_of_ble_eq_true rfl, Nat.le_of_ble_eq_true rfl⟩) hLA hA hB hS (by decide) (fun σ_19 ρ_20 H locs hB fσ_19 pσ_19 hS => ?_)
    refine lv_iconst (v := 0) hx hb dX6_runYears_38 (by decide) ?_
    refine lv_istore (lv' := [(6, .int 0), (5, .int i_11), (0, .ref h0), (1, .ref h1), (2, .null), (3, .int p3), (4, .int p4)]) hx hb dX6_runYears_39 hl (by decide) rfl (fun ls hl => ?_)
    have k_22 : σ_19 h1 8 = x_1 := (FR.at fσ_19 th1 (by decide)).trans k_15
    refine w_loop (α := Int32 × Sg × Lg) (fun (i_23, σ_24, ρ_25) H locs ls => 0 ≤ i_23.toInt ∧ i_23.toInt ≤ 60 ∧ σ_24 h1 8 = x_1 ∧ TS D cA L T r ry [(6, 3), (6, 4), (6, 5), (103, 6), (103, 7), (125, 1000), (126, 1000), (127, 1000), (128, 1000), (129, 1000), (130, 1000)] σ σ_24 ρ_25 H ∧ va_S (dm L s.heap.size) s.heap H locs ∧ lv_has ls 7 [(6, .int i_23), (5, .int i_11), (0, .ref h0), (1, .ref h1), (2, .null), (3, .int p3), (4, .int p4)]) (fun (i_23, σ_24, ρ_25) => (60 - i_23.toInt).toNat) ?_ ⟨0, σ_19, ρ_20⟩ ⟨(by decide), (by decide), k_22, hB, hS, lv_sub hl [0, 1, 2, 3, 4, 5, 6] rfl⟩
    rintro ⟨i_23, σ_24, ρ_25⟩ H locs ls ⟨li_23, ui_23, k_27, hB, hS, hl⟩ ih_26
    refine lv_iload hx hb dX6_runYears_41 (lv_at hl 0 rfl) ?_
    refine lv_iload hx hb dX6_runYears_43 (lv_at hl 6 rfl) ?_
    refine lv_icmp_ge (tgt := 75) hx hb dX6_runYears_45 (by decide) (fun c_28 => ?_) (fun c_28 => ?_)
    · skip
      have uc_28 := j_le c_28
      refine lv_iconst (v := 0) hx hb dX6_runYears_75 (by decide) ?_
      refine lv_istore (lv' := [(6, .int 0), (5, .int i_11), (0, .ref h0), (1, .ref h1), (2, .null), (3, .int p3), (4, .int p4)]) hx hb dX6_runYears_76 hl (by decide) rfl (fun ls hl => ?_)
      refine w_loop (α := Int32 × Sg × Lg) (fun (i_29, σ_30, ρ_31) H locs ls => 0 ≤ i_29.toInt ∧ i_29.toInt ≤ 4 ∧ σ_30 h1 8 = x_1 ∧ TS D cA L T r ry [(6, 3), (6, 4), (6, 5), (103, 6), (103, 7), (125, 1000), (126, 1000), (127, 1000), (128, 1000), (129, 1000), (130, 1000)] σ σ_30 ρ_31 H ∧ va_S (dm L s.heap.size) s.heap H locs ∧ lv_has ls 7 [(6, .int i_29), (5, .int i_11), (0, .ref h0), (1, .ref h1), (2, .null), (3, .int p3), (4, .int p4)]) (fun (i_29, σ_30, ρ_31) => (4 - i_29.toInt).toNat) ?_ ⟨0, σ_24, ρ_25⟩ ⟨(by decide), (by decide), k_27, hB, hS, lv_sub hl [0, 1, 2, 3, 4, 5, 6] rfl⟩
      rintro ⟨i_29, σ_30, ρ_31⟩ H locs ls ⟨li_29, ui_29, k_33, hB, hS, hl⟩ ih_32
      refine lv_iload hx hb dX6_runYears_78 (lv_at hl 0 rfl) ?_
      refine lv_aload_n hx hb dX6_runYears_80 rfl (lv_at hl 3 rfl) ?_
      refine t_gr hx hb hts hown hK hG hB mh1 th1 fq_10_0 rfl mw_1_235 dX6_runYears_81 (fun b_34 hb_34 mb_34 tb_34 => ?_)
      refine t_gi hx hb hts hown hK hB mb_34 tb_34 fi_3_10 rfl mw_1_186 dX6_runYears_84 (fun x_35 ex_35 lx_35 ux_35 => ?_)
      refine lv_icmp_ge (tgt := 115) hx hb dX6_runYears_87 (by decide) (fun c_36 => ?_) (fun c_36 => ?_)
      · skip
        have uc_36 := j_le c_36
        obtain ⟨x_37, ex_37⟩ : ∃ y : Int32, y = i_11 + 1 := ⟨_, rfl⟩
        have vx_37 := b_add (rfl : i_11.toInt = _) (by decide : (1 : Int32).toInt = 1) ex_37 (by omega) (by omega)
        refine lv_iinc (v := x_37) (lv' := [(5, .int x_37), (6, .int i_29), (0, .ref h0), (1, .ref h1), (2, .null), (3, .int p3), (4, .int p4)]) hx hb dX6_runYears_115 hl (k := 1) rfl (by rw [ex_37]; rfl) (by decide) rfl (fun ls hl => ?_)
        refine lv_goto (tgt := 21) hx hb dX6_runYears_118 (by decide) ?_
        exact ih_14 ⟨x_37, σ_30, ρ_31⟩ _ _ _ ⟨(by omega), (by omega), k_33, hB, hS, lv_sub hl [0, 2, 3, 4, 5, 6] rfl⟩ (by show (10 - x_37.toInt).toNat < (10 - i_11.toInt).toNat; omega)
      · skip
        have uc_36 := j_nle c_36
        refine lv_aload_n hx hb dX6_runYears_90 rfl (lv_at hl 2 rfl) ?_
        refine lv_dup hx hb dX6_runYears_91 rfl ?_
        refine t_gi hx hb hts hown hK hB mh0 th0 fi_6_4 rfl mw_2_71 dX6_runYears_92 (fun x_38 ex_38 lx_38 ux_38 => ?_)
        refine lv_aload_n hx hb dX6_runYears_95 rfl (lv_at hl 2 rfl) ?_
        refine t_gk hx hb hts hown hK hB mh0 th0 fq_6_2 hb_17 mw_2_69 dX6_runYears_96 ?_
        refine t_gr hx hb hts hown hK hG hB mb_17 tb_17 fq_103_0 rfl mw_1_83 dX6_runYears_99 (fun b_39 hb_39 mb_39 tb_39 => ?_)
        refine lv_iload hx hb dX6_runYears_102 (lv_at hl 0 rfl) ?_
        refine t_ai hx hb hK hB mb_39 tb_39 ai_125 (fun _ => rfl) (i_in (by omega) (by omega)) dX6_runYears_104 (fun x_40 ex_40 lx_40 ux_40 => ?_)
        refine lv_iadd hx hb dX6_runYears_105 ?_
        refine lv_topi (fun x_41 ex_41 => ?_)
        refine t_pi hx hb hts hown hK hLA hB hS mh0 th0 fi_6_4 rfl rfl rfl (i_lo _) (i_hi _) (Or.inl (by decide)) mw_2_71 dX6_runYears_106 (fun H locs σ_42 eσ_42 hB hS => ?_)
        have k_43 : σ_42 h0 4 = x_41 := by rw [eσ_42]; exact up2_same _ _ _ _
        obtain ⟨x_44, ex_44⟩ : ∃ y : Int32, y = i_29 + 1 := ⟨_, rfl⟩
        have vx_44 := b_add (rfl : i_29.toInt = _) (by decide : (1 : Int32).toInt = 1) ex_44 (by omega) (by omega)
        refine lv_iinc (v := x_44) (lv' := [(6, .int x_44), (5, .int i_11), (0, .ref h0), (1, .ref h1), (2, .null), (3, .int p3), (4, .int p4)]) hx hb dX6_runYears_109 hl (k := 0) rfl (by rw [ex_44]; rfl) (by decide) rfl (fun ls hl => ?_)
        refine lv_goto (tgt := 78) hx hb dX6_runYears_112 (by decide) ?_
        have k_45 : σ_42 h1 8 = x_1 := by rw [eσ_42, up2_nej _ _ (by decide)]; exact k_33
        exact ih_32 ⟨x_44, σ_42, ρ_31⟩ _ _ _ ⟨(by omega), (by omega), k_45, hB, hS, lv_sub hl [0, 1, 2, 3, 4, 5, 6] rfl⟩ (by show (4 - x_44.toInt).toNat < (4 - i_29.toInt).toNat; omega)
    · skip
      have uc_28 := j_nle c_28
      refine lv_aload_n hx hb dX6_runYears_48 rfl (lv_at hl 2 rfl) ?_
      refine lv_aload_n hx hb dX6_runYears_49 rfl (lv_at hl 3 rfl) ?_
      refine t_gr hx hb hts hown hK hG hB mh1 th1 fq_10_0 rfl mw_1_235 dX6_runYears_50 (fun b_46 hb_46 mb_46 tb_46 => ?_)
      refine t_cv (va_runV (As := [.ref b_46]) (rest := []) ⟨hx, hb, hml, hown, hts⟩ (cy_X6_moveAll l D cA L T r hG hLA.1 σ_24 ρ_25 hB.2.1 _ h0 mh0 th0 b_46 mb_46 tb_46) (cV hts mv_X6_moveAll mw_5_174 rfl rfl ⟨Nat.le_of_ble_eq_true rfl, Nat.le_of_ble_eq_true rfl⟩) (pV hB.1 hK hN mh0 th0 (show shp cA 6 _ _ _ = .inr (6, Fs6 _ _ _) from rfl) rfl) rfl rfl hl.1 rfl (lv_room (Nat.le_of_ble_eq_true rfl)) dX6_runYears_53 ⟨Nat.le_of_ble_eq_true rfl, Nat.le_of_ble_eq_true rfl⟩) hLA hA hB hS (by decide) (fun σ_47 ρ_48 H locs hB fσ_47 pσ_47 hS => ?_)
      refine lv_aload_n hx hb dX6_runYears_56 rfl (lv_at hl 2 rfl) ?_
      refine lv_aload_n hx hb dX6_runYears_57 rfl (lv_at hl 3 rfl) ?_
      refine t_gk hx hb hts hown hK hB mh1 th1 fq_10_0 hb_46 mw_1_235 dX6_runYears_58 ?_
      refine lv_aload_n hx hb dX6_runYears_61 rfl (lv_at hl 2 rfl) ?_
      refine t_gk hx hb hts hown hK hB mh0 th0 fq_6_2 hb_17 mw_2_69 dX6_runYears_62 ?_
      refine lv_aload_nN hx hb dX6_runYears_65 rfl (lv_at hl 4 rfl) ?_
      refine t_cv (va_runV (As := [.ref b_46, .ref b_17, .null]) (rest := []) ⟨hx, hb, hml, hown, hts⟩ (cy_X6_pass_103_0 l D cA L T r hG hLA.1 σ_47 ρ_48 hB.2.1 _ h0 mh0 th0 b_46 mb_46 tb_46 b_17 mb_17 tb_17) (cV hts mv_X6_pass mw_5_184 rfl rfl ⟨Nat.le_of_ble_eq_true rfl, Nat.le_of_ble_eq_true rfl⟩) (pV hB.1 hK hN mh0 th0 (show shp cA 6 _ _ _ = .inr (6, Fs6 _ _ _) from rfl) rfl) rfl rfl hl.1 rfl (lv_room (Nat.le_of_ble_eq_true rfl)) dX6_runYears_66 ⟨Nat.le_of_ble_eq_true rfl, Nat.le_of_ble_eq_true rfl⟩) hLA hA hB hS (by decide) (fun σ_50 ρ_51 H locs hB fσ_50 pσ_50 hS => ?_)
      obtain ⟨x_53, ex_53⟩ : ∃ y : Int32, y = i_23 + 1 := ⟨_, rfl⟩
      have vx_53 := b_add (rfl : i_23.toInt = _) (by decide : (1 : Int32).toInt = 1) ex_53 (by omega) (by omega)
      refine lv_iinc (v := x_53) (lv' := [(6, .int x_53), (5, .int i_11), (0, .ref h0), (1, .ref h1), (2, .null), (3, .int p3), (4, .int p4)]) hx hb dX6_runYears_69 hl (k := 0) rfl (by rw [ex_53]; rfl) (by decide) rfl (fun ls hl => ?_)
      refine lv_goto (tgt := 41) hx hb dX6_runYears_72 (by decide) ?_
      have k_54 : σ_47 h1 8 = x_1 := (FR.at fσ_47 th1 (by decide)).trans k_27
      have k_55 : σ_50 h1 8 = x_1 := (FR.at fσ_50 th1 (by decide)).trans k_54
      exact ih_26 ⟨x_53, σ_50, ρ_51⟩ _ _ _ ⟨(by omega), (by omega), k_55, hB, hS, lv_sub hl [0, 1, 2, 3, 4, 5, 6] rfl⟩ (by show (60 - x_53.toInt).toNat < (60 - i_23.toInt).toNat; omega)
