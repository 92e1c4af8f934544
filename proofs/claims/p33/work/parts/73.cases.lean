/-! THE CLAIM OUT OF ONE WALK OF THE LAW'S BODY. Your part is whole_start (and what it stands on); all else here is the same for every law, but numbers. -/
def R_law : String := "HillBendsLaw"
def lw_P (b : Addr) (xs : List Int32) (args : Array Value) (s : State) : Prop := args = #[.ref b] ∧ s.IntsAt b xs ∧ xs.length ≤ 3072 ∧ (Jvm.Cond.and given_1 narrow_1).before args s = true
def lw_Q (_ : Array Value) (s : State) (o : Outcome) (t : State) : Prop := o = .returned (some (.int 1)) ∧ Framed s o t [] 600000 7302250
def lw_Z (below : List Frame) (a : Array Value) (s : State) : State → Prop := fun t => ∃ o, t.status = .running ∧ Ended t below o ∧ lw_Q a s o t
/-- the law's own end, with 1 on the stack, nothing written that was there before, its room as the claim has it -/
theorem lw_ret {p : Program} {l : Launch} {e : Env} {s : State} {m : MethodId} {below : List Frame} {meth : Method} {c : Code} {b : Nat} (hx : p.tables.exec = Jvm.exec) (hb : c.code = code) (hr : meth.sig.returnType = ret) (hlocks : meth.locks = false) {pc : Nat} {H : Heap} {ls : Array Slot} (hdg : decode code pc = .ok (.ireturn, 1)) : W p l e room_1 s m #[Value.ref b] below meth c H [] 600000 7302250 (lw_Z below #[Value.ref b] s) (F0 m pc ls [.int 1]) := by
  intro T hT X
  obtain ⟨fs, hret, hrun, hended, hW, hframe⟩ := X.leave (v := some (.int 1)) (hlocks := hlocks) (fun h => by rw [hr] at h; cases h)
  have hmeth' : T.vm.method? m = some meth := X.method'
  refine ⟨T.setFrames fs, ?_, .returned (some (.int 1)), hrun, hended, rfl, ⟨_, rfl⟩, hW, hframe⟩
  jvm_step X.here [X.here.top, hx, hb, hdg, hmeth', hr, ret, narrow_b1]
  (try refine ⟨rfl, ?_⟩); (try refine ⟨rfl, ?_⟩)
  first | (intro acts; rw [hret _ acts rfl rfl rfl]) | rw [hret _ _ rfl rfl rfl]
  exact Steps.refl _
/-- what holds at the law's entry: the machine, the code, the tables' words (any of lw_tbl by 'hts w (by decide +kernel)'), the script of L ints xs at the cell b, what the Statement gives of the start (any of its parts by flat_of_before) -/
def lw_At (p : Program) (s : State) (m : MethodId) (meth : Method) (c : Code) (b L : Nat) (xs : Nat → Int32) : Prop :=
  p.tables.exec = Jvm.exec ∧ c.code = code ∧ meth.sig.returnType = ret ∧ c.maxLocals = 4 ∧ s.vm.findClass R_law = some m.cls ∧ (∀ w ∈ lw_tbl, w.before #[Value.ref b] s = true) ∧ va_X b L xs s s.heap ∧ b < s.heap.size ∧ meth.locks = false ∧ (Jvm.Cond.and given_1 narrow_1).before #[Value.ref b] s = true
def msL : List (Nat × Nat) := [(0, 4), (0, 5), (1, 4), (1, 8), (2, 3), (3, 6), (3, 7), (3, 8), (3, 9), (3, 10), (4, 1), (5, 1), (5, 2), (6, 3), (6, 4), (6, 5), (7, 4), (7, 5), (7, 6), (7, 7), (8, 6), (8, 7), (9, 4), (9, 5), (9, 6), (10, 6), (10, 7), (10, 8), (11, 10), (11, 11), (12, 1), (12, 2), (12, 8), (12, 9), (12, 10), (12, 11), (12, 12), (12, 13), (12, 14), (12, 16), (12, 18), (12, 21), (12, 22), (12, 25), (12, 30), (12, 31), (12, 33), (12, 34), (13, 6), (13, 7), (13, 8), (14, 6), (14, 7), (14, 8), (15, 6), (15, 7), (15, 8), (16, 6), (16, 7), (16, 8), (17, 6), (17, 7), (17, 8), (17, 9), (17, 10), (18, 6), (18, 7), (18, 8), (18, 9), (18, 10), (20, 1000), (21, 1000), (22, 1000), (23, 1000), (24, 1000), (25, 1000), (26, 1000), (27, 1000), (28, 1000), (29, 1000), (30, 1000), (31, 1000), (32, 1000), (33, 1000), (34, 1000), (35, 1000), (36, 1000), (37, 1000), (41, 1000), (42, 1000), (43, 1000), (44, 1000), (45, 1000), (46, 1000), (47, 1000), (48, 1000), (49, 1000), (50, 1000), (51, 1000), (52, 1000), (53, 1000), (54, 1000), (55, 1000), (56, 1000), (57, 1000), (58, 1000), (61, 1000), (62, 1000), (63, 1000), (64, 1000), (65, 1000), (66, 1000), (67, 1000), (70, 1000), (71, 1000), (72, 1000), (73, 1000), (74, 1000), (75, 1000), (76, 1000), (77, 1000), (78, 1000), (79, 1000), (80, 1000), (81, 1000), (82, 1000), (83, 1000), (84, 1000), (85, 1000), (86, 1000), (87, 1000), (88, 1000), (89, 1000), (90, 1000), (91, 1000), (92, 1000), (93, 1000), (94, 1000), (95, 1000), (96, 1000), (97, 1000), (98, 1000), (99, 1000), (100, 6), (100, 7), (101, 6), (101, 7), (102, 6), (102, 7), (103, 6), (103, 7), (104, 6), (104, 7), (105, 6), (105, 7), (106, 6), (106, 7), (107, 1000), (108, 1000), (109, 1000), (110, 1000), (111, 1000), (112, 1000), (113, 1000), (114, 1000), (115, 1000), (116, 1000), (117, 1000), (118, 1000), (119, 1000), (120, 1000), (121, 1000), (122, 1000), (123, 1000), (124, 1000), (125, 1000), (126, 1000), (127, 1000), (128, 1000), (129, 1000), (130, 1000), (131, 1000), (132, 1000), (133, 1000), (134, 1000), (135, 1000), (136, 1000), (137, 1000), (138, 1000), (139, 1000), (140, 1000), (141, 1000), (142, 1000), (143, 1000), (144, 1000), (145, 1000), (146, 1000), (147, 1000), (148, 1000)]
theorem mw_3_5 : (.instanceMethod yX11_feed : Cond) ∈ wsA := wsA_t (List.mem_append_right _ (List.mem_append_right _ (List.mem_append_left _ (List.mem_of_getElem? (l := tables_1_3) (i := 5) rfl)))) rfl
theorem mw_3_6 : (.selects RX11 yX11_feed yX11_feed : Cond) ∈ wsA := wsA_t (List.mem_append_right _ (List.mem_append_right _ (List.mem_append_left _ (List.mem_of_getElem? (l := tables_1_3) (i := 6) rfl)))) rfl
theorem mw_3_7 : (.code yX11_feed cX11_feed 6 (some .int) : Cond) ∈ wsA := wsA_t (List.mem_append_right _ (List.mem_append_right _ (List.mem_append_left _ (List.mem_of_getElem? (l := tables_1_3) (i := 7) rfl)))) rfl
theorem mw_3_4 : (.methodLink RL 13 yX11_feed : Cond) ∈ wsA := wsA_t (List.mem_append_right _ (List.mem_append_right _ (List.mem_append_left _ (List.mem_of_getElem? (l := tables_1_3) (i := 4) rfl)))) rfl
theorem mw_6_111 : (.instanceMethod yX12_feed : Cond) ∈ wsA := wsA_t (List.mem_append_right _ (List.mem_append_right _ (List.mem_append_right _ (List.mem_append_right _ (List.mem_append_right _ (List.mem_append_left _ (List.mem_of_getElem? (l := tables_1_6) (i := 111) rfl))))))) rfl
theorem mw_6_112 : (.selects RX12 yX12_feed yX12_feed : Cond) ∈ wsA := wsA_t (List.mem_append_right _ (List.mem_append_right _ (List.mem_append_right _ (List.mem_append_right _ (List.mem_append_right _ (List.mem_append_left _ (List.mem_of_getElem? (l := tables_1_6) (i := 112) rfl))))))) rfl
theorem mw_6_113 : (.code yX12_feed cX12_feed 6 (some .int) : Cond) ∈ wsA := wsA_t (List.mem_append_right _ (List.mem_append_right _ (List.mem_append_right _ (List.mem_append_right _ (List.mem_append_right _ (List.mem_append_left _ (List.mem_of_getElem? (l := tables_1_6) (i := 113) rfl))))))) rfl
theorem mw_6_110 : (.methodLink RL 17 yX12_feed : Cond) ∈ wsA := wsA_t (List.mem_append_right _ (List.mem_append_right _ (List.mem_append_right _ (List.mem_append_right _ (List.mem_append_right _ (List.mem_append_left _ (List.mem_of_getElem? (l := tables_1_6) (i := 110) rfl))))))) rfl
theorem dL_law_192 : decode cL_law 192 = .ok (.aload_n 1, 1) := by decide +kernel
theorem dL_law_193 : decode cL_law 193 = .ok (.aload_n 0, 1) := by decide +kernel
theorem dL_law_194 : decode cL_law 194 = .ok (.iload_n 3, 1) := by decide +kernel
theorem dL_law_195 : decode cL_law 195 = .ok (.iconst 1, 1) := by decide +kernel
theorem dL_law_196 : decode cL_law 196 = .ok (.iadd, 1) := by decide +kernel
theorem dL_law_197 : decode cL_law 197 = .ok (.iaload, 1) := by decide +kernel
theorem dL_law_198 : decode cL_law 198 = .ok (.aload_n 0, 1) := by decide +kernel
theorem dL_law_199 : decode cL_law 199 = .ok (.iload_n 3, 1) := by decide +kernel
theorem dL_law_200 : decode cL_law 200 = .ok (.iconst 2, 1) := by decide +kernel
theorem dL_law_201 : decode cL_law 201 = .ok (.iadd, 1) := by decide +kernel
theorem dL_law_202 : decode cL_law 202 = .ok (.iaload, 1) := by decide +kernel
theorem dL_law_203 : decode cL_law 203 = .ok (.aload_n 0, 1) := by decide +kernel
theorem dL_law_204 : decode cL_law 204 = .ok (.iload_n 3, 1) := by decide +kernel
theorem dL_law_205 : decode cL_law 205 = .ok (.iconst 3, 1) := by decide +kernel
theorem dL_law_206 : decode cL_law 206 = .ok (.iadd, 1) := by decide +kernel
theorem dL_law_207 : decode cL_law 207 = .ok (.iaload, 1) := by decide +kernel
theorem dL_law_208 : decode cL_law 208 = .ok (.aload_n 0, 1) := by decide +kernel
theorem dL_law_209 : decode cL_law 209 = .ok (.iload_n 3, 1) := by decide +kernel
theorem dL_law_210 : decode cL_law 210 = .ok (.iconst 4, 1) := by decide +kernel
theorem dL_law_211 : decode cL_law 211 = .ok (.iadd, 1) := by decide +kernel
theorem dL_law_212 : decode cL_law 212 = .ok (.iaload, 1) := by decide +kernel
theorem dL_law_213 : decode cL_law 213 = .ok (.aload_n 0, 1) := by decide +kernel
theorem dL_law_214 : decode cL_law 214 = .ok (.iload_n 3, 1) := by decide +kernel
theorem dL_law_215 : decode cL_law 215 = .ok (.iconst 5, 1) := by decide +kernel
theorem dL_law_216 : decode cL_law 216 = .ok (.iadd, 1) := by decide +kernel
theorem dL_law_217 : decode cL_law 217 = .ok (.iaload, 1) := by decide +kernel
theorem dL_law_218 : decode cL_law 218 = .ok (.invokevirtual 13, 3) := by decide +kernel
theorem dL_law_221 : decode cL_law 221 = .ok (.pop, 1) := by decide +kernel
theorem dL_law_222 : decode cL_law 222 = .ok (.aload_n 2, 1) := by decide +kernel
theorem dL_law_223 : decode cL_law 223 = .ok (.aload_n 0, 1) := by decide +kernel
theorem dL_law_224 : decode cL_law 224 = .ok (.iload_n 3, 1) := by decide +kernel
theorem dL_law_225 : decode cL_law 225 = .ok (.iconst 1, 1) := by decide +kernel
theorem dL_law_226 : decode cL_law 226 = .ok (.iadd, 1) := by decide +kernel
theorem dL_law_227 : decode cL_law 227 = .ok (.iaload, 1) := by decide +kernel
theorem dL_law_228 : decode cL_law 228 = .ok (.aload_n 0, 1) := by decide +kernel
theorem dL_law_229 : decode cL_law 229 = .ok (.iload_n 3, 1) := by decide +kernel
theorem dL_law_230 : decode cL_law 230 = .ok (.iconst 2, 1) := by decide +kernel
theorem dL_law_231 : decode cL_law 231 = .ok (.iadd, 1) := by decide +kernel
theorem dL_law_232 : decode cL_law 232 = .ok (.iaload, 1) := by decide +kernel
theorem dL_law_233 : decode cL_law 233 = .ok (.aload_n 0, 1) := by decide +kernel
theorem dL_law_234 : decode cL_law 234 = .ok (.iload_n 3, 1) := by decide +kernel
theorem dL_law_235 : decode cL_law 235 = .ok (.iconst 3, 1) := by decide +kernel
theorem dL_law_236 : decode cL_law 236 = .ok (.iadd, 1) := by decide +kernel
theorem dL_law_237 : decode cL_law 237 = .ok (.iaload, 1) := by decide +kernel
theorem dL_law_238 : decode cL_law 238 = .ok (.aload_n 0, 1) := by decide +kernel
theorem dL_law_239 : decode cL_law 239 = .ok (.iload_n 3, 1) := by decide +kernel
theorem dL_law_240 : decode cL_law 240 = .ok (.iconst 4, 1) := by decide +kernel
theorem dL_law_241 : decode cL_law 241 = .ok (.iadd, 1) := by decide +kernel
theorem dL_law_242 : decode cL_law 242 = .ok (.iaload, 1) := by decide +kernel
theorem dL_law_243 : decode cL_law 243 = .ok (.aload_n 0, 1) := by decide +kernel
theorem dL_law_244 : decode cL_law 244 = .ok (.iload_n 3, 1) := by decide +kernel
theorem dL_law_245 : decode cL_law 245 = .ok (.iconst 5, 1) := by decide +kernel
theorem dL_law_246 : decode cL_law 246 = .ok (.iadd, 1) := by decide +kernel
theorem dL_law_247 : decode cL_law 247 = .ok (.iaload, 1) := by decide +kernel
theorem dL_law_248 : decode cL_law 248 = .ok (.invokevirtual 17, 3) := by decide +kernel
theorem dL_law_251 : decode cL_law 251 = .ok (.pop, 1) := by decide +kernel
theorem dL_law_252 : decode cL_law 252 = .ok (.goto 988, 3) := by decide +kernel
theorem mv_X11_feed : MV RX11 yX11_feed cX11_feed 6 (some .int) 5 := ⟨mw_3_5, mw_3_6, mw_1_1, mw_3_7, ⟨rfl, by decide, by decide, by decide +kernel⟩⟩
theorem mv_X12_feed : MV RX12 yX12_feed cX12_feed 6 (some .int) 5 := ⟨mw_6_111, mw_6_112, mw_1_13, mw_6_113, ⟨rfl, by decide, by decide, by decide +kernel⟩⟩
set_option maxHeartbeats 4000000 in
set_option maxRecDepth 100000 in
theorem law_c0 {p : Program} {e : Env} {s : State} {m : MethodId} {below : List Frame} {meth : Method} {c : Code} (l : Launch) {b Ls : Nat} {xs : Nat → Int32} (hLs : Ls ≤ 3072) (hx : p.tables.exec = Jvm.exec) (hb : c.code = code) (hr : meth.sig.returnType = ret) (hml : c.maxLocals = 4) (hown : s.vm.findClass RL = some m.cls) (hts : ∀ w ∈ wsA, w.before #[Value.ref b] s = true) (hX : va_X b Ls xs s s.heap) (hbl : b < s.heap.size) (hlocks : meth.locks = false) (D : va_G) (cA : Nat → ClassId) (hK : va_K D vwCl (tyA cA) s) (hN : NW s) (adK adV : Nat → Nat) (L : List Nat) (T : Nat → Nat) (r : Rg) (hLA : LA (fun q : Nat => s.heap.size ≤ q) L) (hG : GR L T r) (hV : SWL adK adV L s) (qx : Nat) (mqx : qx ∈ L) (tqx : T qx = 11) (bw : Nat) (mbw : bw ∈ L) (tbw : T bw = 10) (w0 : Nat) (mw0 : w0 ∈ L) (tw0 : T w0 = 13) (w1 : Nat) (mw1 : w1 ∈ L) (tw1 : T w1 = 14) (w2 : Nat) (mw2 : w2 ∈ L) (tw2 : T w2 = 15) (w3 : Nat) (mw3 : w3 ∈ L) (tw3 : T w3 = 16) (qm : Nat) (mqm : qm ∈ L) (tqm : T qm = 12) (bg : Nat) (mbg : bg ∈ L) (tbg : T bg = 62) (bk : Nat) (mbk : bk ∈ L) (tbk : T bk = 64) (bc : Nat) (mbc : bc ∈ L) (tbc : T bc = 65) (bx : Nat) (mbx : bx ∈ L) (tbx : T bx = 84) (bi : Nat) (mbi : bi ∈ L) (tbi : T bi = 85) (bf : Nat) (mbf : bf ∈ L) (tbf : T bf = 83) (ba : Nat) (mba : ba ∈ L) (tba : T ba = 60) (hbw : r qx 3 = some bw) (hba : r qx 4 = some ba) (hbg : r qm 3 = some bg) (hbk : r qm 5 = some bk) (hbc : r qm 6 = some bc) (hbx : r qm 42 = some bx) (hbi : r qm 43 = some bi) (hbf : r qm 41 = some bf) (hw0 : r ba 0 = some w0) (hw1 : r ba 1 = some w1) (hw2 : r ba 2 = some w2) (hw3 : r ba 3 = some w3) (hLG : LG T qx bw w0 w1 w2 w3 qm bg bk bc bx bi bf) (i : Int32) (li : 0 ≤ i.toInt) (ui : i.toInt ≤ 3066) (vi : i.toInt + 6 ≤ Ls) (σ0 σ : Sg) (ρ : Lg) (H : Heap) (hB : TS D cA L T r ry msL σ0 σ ρ H) (hI : LI σ qx bw w0 w1 w2 w3 qm bg bk bc bx bi bf) (locs : List Loc) (hS : va_S (fun q : Nat => s.heap.size ≤ q) s.heap H locs) (ls : Array Slot) (hl : lv_has ls 4 [(3, .int i), (2, .ref qm), (1, .ref qx), (0, .ref b)]) (kk : ∀ (σ2 : Sg) (ρ2 : Lg) (H : Heap) (locs : List Loc), TS D cA L T r ry msL σ0 σ2 ρ2 H → LI σ2 qx bw w0 w1 w2 w3 qm bg bk bc bx bi bf → va_S (fun q : Nat => s.heap.size ≤ q) s.heap H locs → W p l e room_1 s m #[Value.ref b] below meth c H locs 378 16064 (lw_Z below #[Value.ref b] s) (F0 m 1240 ls [])) : W p l e room_1 s m #[Value.ref b] below meth c H locs 378 16064 (lw_Z below #[Value.ref b] s) (F0 m 192 ls []) := by
  have hA : ∀ q : Nat, s.heap.size ≤ q → (fun q : Nat => s.heap.size ≤ q) q := fun _ h => h
  have hbA : ¬ (fun q : Nat => s.heap.size ≤ q) b := Nat.not_le.mpr hbl
  refine lv_aload_n hx hb dL_law_192 rfl (lv_at hl 2 rfl) ?_
  refine lv_aload_n hx hb dL_law_193 rfl (lv_at hl 3 rfl) ?_
  refine lv_iload_n hx hb dL_law_194 rfl (lv_at hl 0 rfl) ?_
  refine lv_iconst (v := 1) hx hb dL_law_195 (by decide) ?_
  refine lv_iadd hx hb dL_law_196 ?_
  refine lv_topi (fun x_1 ex_1 => ?_)
  have vx_1 := b_add (rfl : i.toInt = _) (by decide : (1 : Int32).toInt = 1) ex_1 (by omega) (by omega)
  refine va_sld hx hb hX hbl hbA hS (i_in (by omega) (by omega)) dL_law_197 ?_
  refine tp_i (w := xs (i.toInt.toNat + 1)) (by rw [show x_1.toNatClampNeg = i.toInt.toNat + 1 from (by have hn : x_1.toNatClampNeg = x_1.toInt.toNat := rfl; omega)]) ?_
  refine lv_aload_n hx hb dL_law_198 rfl (lv_at hl 3 rfl) ?_
  refine lv_iload_n hx hb dL_law_199 rfl (lv_at hl 0 rfl) ?_
  refine lv_iconst (v := 2) hx hb dL_law_200 (by decide) ?_
  refine lv_iadd hx hb dL_law_201 ?_
  refine lv_topi (fun x_2 ex_2 => ?_)
  have vx_2 := b_add (rfl : i.toInt = _) (by decide : (2 : Int32).toInt = 2) ex_2 (by omega) (by omega)
  refine va_sld hx hb hX hbl hbA hS (i_in (by omega) (by omega)) dL_law_202 ?_
  refine tp_i (w := xs (i.toInt.toNat + 2)) (by rw [show x_2.toNatClampNeg = i.toInt.toNat + 2 from (by have hn : x_2.toNatClampNeg = x_2.toInt.toNat := rfl; omega)]) ?_
  refine lv_aload_n hx hb dL_law_203 rfl (lv_at hl 3 rfl) ?_
  refine lv_iload_n hx hb dL_law_204 rfl (lv_at hl 0 rfl) ?_
  refine lv_iconst (v := 3) hx hb dL_law_205 (by decide) ?_
  refine lv_iadd hx hb dL_law_206 ?_
  refine lv_topi (fun x_3 ex_3 => ?_)
  have vx_3 := b_add (rfl : i.toInt = _) (by decide : (3 : Int32).toInt = 3) ex_3 (by omega) (by omega)
  refine va_sld hx hb hX hbl hbA hS (i_in (by omega) (by omega)) dL_law_207 ?_
  refine tp_i (w := xs (i.toInt.toNat + 3)) (by rw [show x_3.toNatClampNeg = i.toInt.toNat + 3 from (by have hn : x_3.toNatClampNeg = x_3.toInt.toNat := rfl; omega)]) ?_
  refine lv_aload_n hx hb dL_law_208 rfl (lv_at hl 3 rfl) ?_
  refine lv_iload_n hx hb dL_law_209 rfl (lv_at hl 0 rfl) ?_
  refine lv_iconst (v := 4) hx hb dL_law_210 (by decide) ?_
  refine lv_iadd hx hb dL_law_211 ?_
  refine lv_topi (fun x_4 ex_4 => ?_)
  have vx_4 := b_add (rfl : i.toInt = _) (by decide : (4 : Int32).toInt = 4) ex_4 (by omega) (by omega)
  refine va_sld hx hb hX hbl hbA hS (i_in (by omega) (by omega)) dL_law_212 ?_
  refine tp_i (w := xs (i.toInt.toNat + 4)) (by rw [show x_4.toNatClampNeg = i.toInt.toNat + 4 from (by have hn : x_4.toNatClampNeg = x_4.toInt.toNat := rfl; omega)]) ?_
  refine lv_aload_n hx hb dL_law_213 rfl (lv_at hl 3 rfl) ?_
  refine lv_iload_n hx hb dL_law_214 rfl (lv_at hl 0 rfl) ?_
  refine lv_iconst (v := 5) hx hb dL_law_215 (by decide) ?_
  refine lv_iadd hx hb dL_law_216 ?_
  refine lv_topi (fun x_5 ex_5 => ?_)
  have vx_5 := b_add (rfl : i.toInt = _) (by decide : (5 : Int32).toInt = 5) ex_5 (by omega) (by omega)
  refine va_sld hx hb hX hbl hbA hS (i_in (by omega) (by omega)) dL_law_217 ?_
  refine tp_i (w := xs (i.toInt.toNat + 5)) (by rw [show x_5.toNatClampNeg = i.toInt.toNat + 5 from (by have hn : x_5.toNatClampNeg = x_5.toInt.toNat := rfl; omega)]) ?_
  refine t_ci (va_runV (As := [.int (xs (i.toInt.toNat + 1)), .int (xs (i.toInt.toNat + 2)), .int (xs (i.toInt.toNat + 3)), .int (xs (i.toInt.toNat + 4)), .int (xs (i.toInt.toNat + 5))]) (rest := []) ⟨hx, hb, hml, hown, hts⟩ (cy_X11_feed l D cA L T r hG hLA.1 σ ρ hB.2.1 _ qx mqx tqx (xs (i.toInt.toNat + 1)) (xs (i.toInt.toNat + 2)) (xs (i.toInt.toNat + 3)) (xs (i.toInt.toNat + 4)) (xs (i.toInt.toNat + 5))) (cV hts mv_X11_feed mw_3_4 rfl rfl ⟨Nat.le_of_ble_eq_true rfl, Nat.le_of_ble_eq_true rfl⟩) (pV hB.1 hK hN mqx tqx (show shp cA 11 _ _ _ = .inr (11, Fs11 _ _ _) from rfl) rfl) rfl rfl hl.1 rfl (lv_room (Nat.le_of_ble_eq_true rfl)) dL_law_218 ⟨Nat.le_of_ble_eq_true rfl, Nat.le_of_ble_eq_true rfl⟩) hLA hA hB hS (by decide) (fun x_8 σ_6 ρ_7 H locs hB fσ_6 pσ_6 hS => ?_)
  have hI_9 : LI σ_6 qx bw w0 w1 w2 w3 qm bg bk bc bx bi bf := LI.fr hLG hI fσ_6 (by decide)
  refine lv_pop hx hb dL_law_221 rfl ?_
  refine lv_aload_n hx hb dL_law_222 rfl (lv_at hl 1 rfl) ?_
  refine lv_aload_n hx hb dL_law_223 rfl (lv_at hl 3 rfl) ?_
  refine lv_iload_n hx hb dL_law_224 rfl (lv_at hl 0 rfl) ?_
  refine lv_iconst (v := 1) hx hb dL_law_225 (by decide) ?_
  refine lv_iadd hx hb dL_law_226 ?_
  refine lv_topi (fun x_10 ex_10 => ?_)
  have vx_10 := b_add (rfl : i.toInt = _) (by decide : (1 : Int32).toInt = 1) ex_10 (by omega) (by omega)
  refine va_sld hx hb hX hbl hbA hS (i_in (by omega) (by omega)) dL_law_227 ?_
  refine tp_i (w := xs (i.toInt.toNat + 1)) (by rw [show x_10.toNatClampNeg = i.toInt.toNat + 1 from (by have hn : x_10.toNatClampNeg = x_10.toInt.toNat := rfl; omega)]) ?_
  refine lv_aload_n hx hb dL_law_228 rfl (lv_at hl 3 rfl) ?_
  refine lv_iload_n hx hb dL_law_229 rfl (lv_at hl 0 rfl) ?_
  refine lv_iconst (v := 2) hx hb dL_law_230 (by decide) ?_
  refine lv_iadd hx hb dL_law_231 ?_
  refine lv_topi (fun x_11 ex_11 => ?_)
  have vx_11 := b_add (rfl : i.toInt = _) (by decide : (2 : Int32).toInt = 2) ex_11 (by omega) (by omega)
  refine va_sld hx hb hX hbl hbA hS (i_in (by omega) (by omega)) dL_law_232 ?_
  refine tp_i (w := xs (i.toInt.toNat + 2)) (by rw [show x_11.toNatClampNeg = i.toInt.toNat + 2 from (by have hn : x_11.toNatClampNeg = x_11.toInt.toNat := rfl; omega)]) ?_
  refine lv_aload_n hx hb dL_law_233 rfl (lv_at hl 3 rfl) ?_
  refine lv_iload_n hx hb dL_law_234 rfl (lv_at hl 0 rfl) ?_
  refine lv_iconst (v := 3) hx hb dL_law_235 (by decide) ?_
  refine lv_iadd hx hb dL_law_236 ?_
  refine lv_topi (fun x_12 ex_12 => ?_)
  have vx_12 := b_add (rfl : i.toInt = _) (by decide : (3 : Int32).toInt = 3) ex_12 (by omega) (by omega)
  refine va_sld hx hb hX hbl hbA hS (i_in (by omega) (by omega)) dL_law_237 ?_
  refine tp_i (w := xs (i.toInt.toNat + 3)) (by rw [show x_12.toNatClampNeg = i.toInt.toNat + 3 from (by have hn : x_12.toNatClampNeg = x_12.toInt.toNat := rfl; omega)]) ?_
  refine lv_aload_n hx hb dL_law_238 rfl (lv_at hl 3 rfl) ?_
  refine lv_iload_n hx hb dL_law_239 rfl (lv_at hl 0 rfl) ?_
  refine lv_iconst (v := 4) hx hb dL_law_240 (by decide) ?_
  refine lv_iadd hx hb dL_law_241 ?_
  refine lv_topi (fun x_13 ex_13 => ?_)
  have vx_13 := b_add (rfl : i.toInt = _) (by decide : (4 : Int32).toInt = 4) ex_13 (by omega) (by omega)
  refine va_sld hx hb hX hbl hbA hS (i_in (by omega) (by omega)) dL_law_242 ?_
  refine tp_i (w := xs (i.toInt.toNat + 4)) (by rw [show x_13.toNatClampNeg = i.toInt.toNat + 4 from (by have hn : x_13.toNatClampNeg = x_13.toInt.toNat := rfl; omega)]) ?_
  refine lv_aload_n hx hb dL_law_243 rfl (lv_at hl 3 rfl) ?_
  refine lv_iload_n hx hb dL_law_244 rfl (lv_at hl 0 rfl) ?_
  refine lv_iconst (v := 5) hx hb dL_law_245 (by decide) ?_
  refine lv_iadd hx hb dL_law_246 ?_
  refine lv_topi (fun x_14 ex_14 => ?_)
  have vx_14 := b_add (rfl : i.toInt = _) (by decide : (5 : Int32).toInt = 5) ex_14 (by omega) (by omega)
  refine va_sld hx hb hX hbl hbA hS (i_in (by omega) (by omega)) dL_law_247 ?_
  refine tp_i (w := xs (i.toInt.toNat + 5)) (by rw [show x_14.toNatClampNeg = i.toInt.toNat + 5 from (by have hn : x_14.toNatClampNeg = x_14.toInt.toNat := rfl; omega)]) ?_
  refine t_ci (va_runV (As := [.int (xs (i.toInt.toNat + 1)), .int (xs (i.toInt.toNat + 2)), .int (xs (i.toInt.toNat + 3)), .int (xs (i.toInt.toNat + 4)), .int (xs (i.toInt.toNat + 5))]) (rest := []) ⟨hx, hb, hml, hown, hts⟩ (cy_X12_feed l D cA L T r hG hLA.1 σ_6 ρ_7 hB.2.1 _ qm mqm tqm (xs (i.toInt.toNat + 1)) (xs (i.toInt.toNat + 2)) (xs (i.toInt.toNat + 3)) (xs (i.toInt.toNat + 4)) (xs (i.toInt.toNat + 5))) (cV hts mv_X12_feed mw_6_110 rfl rfl ⟨Nat.le_of_ble_eq_true rfl, Nat.le_of_ble_eq_true rfl⟩) (pV hB.1 hK hN mqm tqm (show shp cA 12 _ _ _ = .inr (12, Fs12 _ _ _) from rfl) rfl) rfl rfl hl.1 rfl (lv_room (Nat.le_of_ble_eq_true rfl)) dL_law_248 ⟨Nat.le_of_ble_eq_true rfl, Nat.le_of_ble_eq_true rfl⟩) hLA hA hB hS (by decide) (fun x_17 σ_15 ρ_16 H locs hB fσ_15 pσ_15 hS => ?_)
  have hI_18 : LI σ_15 qx bw w0 w1 w2 w3 qm bg bk bc bx bi bf := LI.fr hLG hI_9 fσ_15 (by decide)
  refine lv_pop hx hb dL_law_251 rfl ?_
  refine lv_goto (tgt := 1240) hx hb dL_law_252 (by decide) ?_
  exact kk _ _ _ _ hB hI_18 hS
theorem mw_3_13 : (.instanceMethod yX11_end : Cond) ∈ wsA := wsA_t (List.mem_append_right _ (List.mem_append_right _ (List.mem_append_left _ (List.mem_of_getElem? (l := tables_1_3) (i := 13) rfl)))) rfl
theorem mw_3_14 : (.selects RX11 yX11_end yX11_end : Cond) ∈ wsA := wsA_t (List.mem_append_right _ (List.mem_append_right _ (List.mem_append_left _ (List.mem_of_getElem? (l := tables_1_3) (i := 14) rfl)))) rfl
theorem mw_3_15 : (.code yX11_end cX11_end 2 (some .int) : Cond) ∈ wsA := wsA_t (List.mem_append_right _ (List.mem_append_right _ (List.mem_append_left _ (List.mem_of_getElem? (l := tables_1_3) (i := 15) rfl)))) rfl
theorem mw_3_12 : (.methodLink RL 18 yX11_end : Cond) ∈ wsA := wsA_t (List.mem_append_right _ (List.mem_append_right _ (List.mem_append_left _ (List.mem_of_getElem? (l := tables_1_3) (i := 12) rfl)))) rfl
theorem mw_6_119 : (.instanceMethod yX12_end : Cond) ∈ wsA := wsA_t (List.mem_append_right _ (List.mem_append_right _ (List.mem_append_right _ (List.mem_append_right _ (List.mem_append_right _ (List.mem_append_left _ (List.mem_of_getElem? (l := tables_1_6) (i := 119) rfl))))))) rfl
theorem mw_6_120 : (.selects RX12 yX12_end yX12_end : Cond) ∈ wsA := wsA_t (List.mem_append_right _ (List.mem_append_right _ (List.mem_append_right _ (List.mem_append_right _ (List.mem_append_right _ (List.mem_append_left _ (List.mem_of_getElem? (l := tables_1_6) (i := 120) rfl))))))) rfl
theorem mw_6_121 : (.code yX12_end cX12_end 2 (some .int) : Cond) ∈ wsA := wsA_t (List.mem_append_right _ (List.mem_append_right _ (List.mem_append_right _ (List.mem_append_right _ (List.mem_append_right _ (List.mem_append_left _ (List.mem_of_getElem? (l := tables_1_6) (i := 121) rfl))))))) rfl
theorem mw_6_118 : (.methodLink RL 22 yX12_end : Cond) ∈ wsA := wsA_t (List.mem_append_right _ (List.mem_append_right _ (List.mem_append_right _ (List.mem_append_right _ (List.mem_append_right _ (List.mem_append_left _ (List.mem_of_getElem? (l := tables_1_6) (i := 118) rfl))))))) rfl
theorem dL_law_255 : decode cL_law 255 = .ok (.aload_n 1, 1) := by decide +kernel
theorem dL_law_256 : decode cL_law 256 = .ok (.aload_n 0, 1) := by decide +kernel
theorem dL_law_257 : decode cL_law 257 = .ok (.iload_n 3, 1) := by decide +kernel
theorem dL_law_258 : decode cL_law 258 = .ok (.iconst 1, 1) := by decide +kernel
theorem dL_law_259 : decode cL_law 259 = .ok (.iadd, 1) := by decide +kernel
theorem dL_law_260 : decode cL_law 260 = .ok (.iaload, 1) := by decide +kernel
theorem dL_law_261 : decode cL_law 261 = .ok (.invokevirtual 18, 3) := by decide +kernel
theorem dL_law_264 : decode cL_law 264 = .ok (.pop, 1) := by decide +kernel
theorem dL_law_265 : decode cL_law 265 = .ok (.aload_n 2, 1) := by decide +kernel
theorem dL_law_266 : decode cL_law 266 = .ok (.aload_n 0, 1) := by decide +kernel
theorem dL_law_267 : decode cL_law 267 = .ok (.iload_n 3, 1) := by decide +kernel
theorem dL_law_268 : decode cL_law 268 = .ok (.iconst 1, 1) := by decide +kernel
theorem dL_law_269 : decode cL_law 269 = .ok (.iadd, 1) := by decide +kernel
theorem dL_law_270 : decode cL_law 270 = .ok (.iaload, 1) := by decide +kernel
theorem dL_law_271 : decode cL_law 271 = .ok (.invokevirtual 22, 3) := by decide +kernel
theorem dL_law_274 : decode cL_law 274 = .ok (.pop, 1) := by decide +kernel
theorem dL_law_275 : decode cL_law 275 = .ok (.goto 965, 3) := by decide +kernel
theorem mv_X11_end : MV RX11 yX11_end cX11_end 2 (some .int) 1 := ⟨mw_3_13, mw_3_14, mw_1_1, mw_3_15, ⟨rfl, by decide, by decide, by decide +kernel⟩⟩
theorem mv_X12_end : MV RX12 yX12_end cX12_end 2 (some .int) 1 := ⟨mw_6_119, mw_6_120, mw_1_13, mw_6_121, ⟨rfl, by decide, by decide, by decide +kernel⟩⟩
set_option maxHeartbeats 4000000 in
set_option maxRecDepth 100000 in
theorem law_c1 {p : Program} {e : Env} {s : State} {m : MethodId} {below : List Frame} {meth : Method} {c : Code} (l : Launch) {b Ls : Nat} {xs : Nat → Int32} (hLs : Ls ≤ 3072) (hx : p.tables.exec = Jvm.exec) (hb : c.code = code) (hr : meth.sig.returnType = ret) (hml : c.maxLocals = 4) (hown : s.vm.findClass RL = some m.cls) (hts : ∀ w ∈ wsA, w.before #[Value.ref b] s = true) (hX : va_X b Ls xs s s.heap) (hbl : b < s.heap.size) (hlocks : meth.locks = false) (D : va_G) (cA : Nat → ClassId) (hK : va_K D vwCl (tyA cA) s) (hN : NW s) (adK adV : Nat → Nat) (L : List Nat) (T : Nat → Nat) (r : Rg) (hLA : LA (fun q : Nat => s.heap.size ≤ q) L) (hG : GR L T r) (hV : SWL adK adV L s) (qx : Nat) (mqx : qx ∈ L) (tqx : T qx = 11) (bw : Nat) (mbw : bw ∈ L) (tbw : T bw = 10) (w0 : Nat) (mw0 : w0 ∈ L) (tw0 : T w0 = 13) (w1 : Nat) (mw1 : w1 ∈ L) (tw1 : T w1 = 14) (w2 : Nat) (mw2 : w2 ∈ L) (tw2 : T w2 = 15) (w3 : Nat) (mw3 : w3 ∈ L) (tw3 : T w3 = 16) (qm : Nat) (mqm : qm ∈ L) (tqm : T qm = 12) (bg : Nat) (mbg : bg ∈ L) (tbg : T bg = 62) (bk : Nat) (mbk : bk ∈ L) (tbk : T bk = 64) (bc : Nat) (mbc : bc ∈ L) (tbc : T bc = 65) (bx : Nat) (mbx : bx ∈ L) (tbx : T bx = 84) (bi : Nat) (mbi : bi ∈ L) (tbi : T bi = 85) (bf : Nat) (mbf : bf ∈ L) (tbf : T bf = 83) (ba : Nat) (mba : ba ∈ L) (tba : T ba = 60) (hbw : r qx 3 = some bw) (hba : r qx 4 = some ba) (hbg : r qm 3 = some bg) (hbk : r qm 5 = some bk) (hbc : r qm 6 = some bc) (hbx : r qm 42 = some bx) (hbi : r qm 43 = some bi) (hbf : r qm 41 = some bf) (hw0 : r ba 0 = some w0) (hw1 : r ba 1 = some w1) (hw2 : r ba 2 = some w2) (hw3 : r ba 3 = some w3) (hLG : LG T qx bw w0 w1 w2 w3 qm bg bk bc bx bi bf) (i : Int32) (li : 0 ≤ i.toInt) (ui : i.toInt ≤ 3066) (vi : i.toInt + 6 ≤ Ls) (σ0 σ : Sg) (ρ : Lg) (H : Heap) (hB : TS D cA L T r ry msL σ0 σ ρ H) (hI : LI σ qx bw w0 w1 w2 w3 qm bg bk bc bx bi bf) (locs : List Loc) (hS : va_S (fun q : Nat => s.heap.size ≤ q) s.heap H locs) (ls : Array Slot) (hl : lv_has ls 4 [(3, .int i), (2, .ref qm), (1, .ref qx), (0, .ref b)]) (kk : ∀ (σ2 : Sg) (ρ2 : Lg) (H : Heap) (locs : List Loc), TS D cA L T r ry msL σ0 σ2 ρ2 H → LI σ2 qx bw w0 w1 w2 w3 qm bg bk bc bx bi bf → va_S (fun q : Nat => s.heap.size ≤ q) s.heap H locs → W p l e room_1 s m #[Value.ref b] below meth c H locs 378 16064 (lw_Z below #[Value.ref b] s) (F0 m 1240 ls [])) : W p l e room_1 s m #[Value.ref b] below meth c H locs 378 16064 (lw_Z below #[Value.ref b] s) (F0 m 255 ls []) := by
  have hA : ∀ q : Nat, s.heap.size ≤ q → (fun q : Nat => s.heap.size ≤ q) q := fun _ h => h
  have hbA : ¬ (fun q : Nat => s.heap.size ≤ q) b := Nat.not_le.mpr hbl
  refine lv_aload_n hx hb dL_law_255 rfl (lv_at hl 2 rfl) ?_
  refine lv_aload_n hx hb dL_law_256 rfl (lv_at hl 3 rfl) ?_
  refine lv_iload_n hx hb dL_law_257 rfl (lv_at hl 0 rfl) ?_
  refine lv_iconst (v := 1) hx hb dL_law_258 (by decide) ?_
  refine lv_iadd hx hb dL_law_259 ?_
  refine lv_topi (fun x_1 ex_1 => ?_)
  have vx_1 := b_add (rfl : i.toInt = _) (by decide : (1 : Int32).toInt = 1) ex_1 (by omega) (by omega)
  refine va_sld hx hb hX hbl hbA hS (i_in (by omega) (by omega)) dL_law_260 ?_
  refine tp_i (w := xs (i.toInt.toNat + 1)) (by rw [show x_1.toNatClampNeg = i.toInt.toNat + 1 from (by have hn : x_1.toNatClampNeg = x_1.toInt.toNat := rfl; omega)]) ?_
  refine t_ci (va_runV (As := [.int (xs (i.toInt.toNat + 1))]) (rest := []) ⟨hx, hb, hml, hown, hts⟩ (cy_X11_end l D cA L T r hG hLA.1 σ ρ hB.2.1 _ qx mqx tqx (xs (i.toInt.toNat + 1))) (cV hts mv_X11_end mw_3_12 rfl rfl ⟨Nat.le_of_ble_eq_true rfl, Nat.le_of_ble_eq_true rfl⟩) (pV hB.1 hK hN mqx tqx (show shp cA 11 _ _ _ = .inr (11, Fs11 _ _ _) from rfl) rfl) rfl rfl hl.1 rfl (lv_room (Nat.le_of_ble_eq_true rfl)) dL_law_261 ⟨Nat.le_of_ble_eq_true rfl, Nat.le_of_ble_eq_true rfl⟩) hLA hA hB hS (by decide) (fun x_4 σ_2 ρ_3 H locs hB fσ_2 pσ_2 hS => ?_)
  have hI_5 : LI σ_2 qx bw w0 w1 w2 w3 qm bg bk bc bx bi bf := LI.fr hLG hI fσ_2 (by decide)
  refine lv_pop hx hb dL_law_264 rfl ?_
  refine lv_aload_n hx hb dL_law_265 rfl (lv_at hl 1 rfl) ?_
  refine lv_aload_n hx hb dL_law_266 rfl (lv_at hl 3 rfl) ?_
  refine lv_iload_n hx hb dL_law_267 rfl (lv_at hl 0 rfl) ?_
  refine lv_iconst (v := 1) hx hb dL_law_268 (by decide) ?_
  refine lv_iadd hx hb dL_law_269 ?_
  refine lv_topi (fun x_6 ex_6 => ?_)
  have vx_6 := b_add (rfl : i.toInt = _) (by decide : (1 : Int32).toInt = 1) ex_6 (by omega) (by omega)
  refine va_sld hx hb hX hbl hbA hS (i_in (by omega) (by omega)) dL_law_270 ?_
  refine tp_i (w := xs (i.toInt.toNat + 1)) (by rw [show x_6.toNatClampNeg = i.toInt.toNat + 1 from (by have hn : x_6.toNatClampNeg = x_6.toInt.toNat := rfl; omega)]) ?_
  refine t_ci (va_runV (As := [.int (xs (i.toInt.toNat + 1))]) (rest := []) ⟨hx, hb, hml, hown, hts⟩ (cy_X12_end l D cA L T r hG hLA.1 σ_2 ρ_3 hB.2.1 _ qm mqm tqm (xs (i.toInt.toNat + 1))) (cV hts mv_X12_end mw_6_118 rfl rfl ⟨Nat.le_of_ble_eq_true rfl, Nat.le_of_ble_eq_true rfl⟩) (pV hB.1 hK hN mqm tqm (show shp cA 12 _ _ _ = .inr (12, Fs12 _ _ _) from rfl) rfl) rfl rfl hl.1 rfl (lv_room (Nat.le_of_ble_eq_true rfl)) dL_law_271 ⟨Nat.le_of_ble_eq_true rfl, Nat.le_of_ble_eq_true rfl⟩) hLA hA hB hS (by decide) (fun x_9 σ_7 ρ_8 H locs hB fσ_7 pσ_7 hS => ?_)
  have hI_10 : LI σ_7 qx bw w0 w1 w2 w3 qm bg bk bc bx bi bf := LI.fr hLG hI_5 fσ_7 (by decide)
  refine lv_pop hx hb dL_law_274 rfl ?_
  refine lv_goto (tgt := 1240) hx hb dL_law_275 (by decide) ?_
  exact kk _ _ _ _ hB hI_10 hS
theorem mw_3_17 : (.instanceMethod yX11_hill : Cond) ∈ wsA := wsA_t (List.mem_append_right _ (List.mem_append_right _ (List.mem_append_left _ (List.mem_of_getElem? (l := tables_1_3) (i := 17) rfl)))) rfl
theorem mw_3_18 : (.selects RX11 yX11_hill yX11_hill : Cond) ∈ wsA := wsA_t (List.mem_append_right _ (List.mem_append_right _ (List.mem_append_left _ (List.mem_of_getElem? (l := tables_1_3) (i := 18) rfl)))) rfl
theorem mw_3_19 : (.code yX11_hill cX11_hill 2 (some .int) : Cond) ∈ wsA := wsA_t (List.mem_append_right _ (List.mem_append_right _ (List.mem_append_left _ (List.mem_of_getElem? (l := tables_1_3) (i := 19) rfl)))) rfl
theorem mw_3_16 : (.methodLink RL 23 yX11_hill : Cond) ∈ wsA := wsA_t (List.mem_append_right _ (List.mem_append_right _ (List.mem_append_left _ (List.mem_of_getElem? (l := tables_1_3) (i := 16) rfl)))) rfl
theorem mw_7_49 : (.instanceMethod yX12_hill : Cond) ∈ wsA := wsA_t (List.mem_append_right _ (List.mem_append_right _ (List.mem_append_right _ (List.mem_append_right _ (List.mem_append_right _ (List.mem_append_right _ (List.mem_append_left _ (List.mem_of_getElem? (l := tables_1_7) (i := 49) rfl)))))))) rfl
theorem mw_7_50 : (.selects RX12 yX12_hill yX12_hill : Cond) ∈ wsA := wsA_t (List.mem_append_right _ (List.mem_append_right _ (List.mem_append_right _ (List.mem_append_right _ (List.mem_append_right _ (List.mem_append_right _ (List.mem_append_left _ (List.mem_of_getElem? (l := tables_1_7) (i := 50) rfl)))))))) rfl
theorem mw_7_51 : (.code yX12_hill cX12_hill 2 (some .int) : Cond) ∈ wsA := wsA_t (List.mem_append_right _ (List.mem_append_right _ (List.mem_append_right _ (List.mem_append_right _ (List.mem_append_right _ (List.mem_append_right _ (List.mem_append_left _ (List.mem_of_getElem? (l := tables_1_7) (i := 51) rfl)))))))) rfl
theorem mw_7_48 : (.methodLink RL 27 yX12_hill : Cond) ∈ wsA := wsA_t (List.mem_append_right _ (List.mem_append_right _ (List.mem_append_right _ (List.mem_append_right _ (List.mem_append_right _ (List.mem_append_right _ (List.mem_append_left _ (List.mem_of_getElem? (l := tables_1_7) (i := 48) rfl)))))))) rfl
theorem dL_law_278 : decode cL_law 278 = .ok (.aload_n 1, 1) := by decide +kernel
theorem dL_law_279 : decode cL_law 279 = .ok (.invokevirtual 23, 3) := by decide +kernel
theorem dL_law_282 : decode cL_law 282 = .ok (.pop, 1) := by decide +kernel
theorem dL_law_283 : decode cL_law 283 = .ok (.aload_n 2, 1) := by decide +kernel
theorem dL_law_284 : decode cL_law 284 = .ok (.invokevirtual 27, 3) := by decide +kernel
theorem dL_law_287 : decode cL_law 287 = .ok (.pop, 1) := by decide +kernel
theorem dL_law_288 : decode cL_law 288 = .ok (.goto 952, 3) := by decide +kernel
theorem mv_X11_hill : MV RX11 yX11_hill cX11_hill 2 (some .int) 0 := ⟨mw_3_17, mw_3_18, mw_1_1, mw_3_19, ⟨rfl, by decide, by decide, by decide +kernel⟩⟩
theorem mv_X12_hill : MV RX12 yX12_hill cX12_hill 2 (some .int) 0 := ⟨mw_7_49, mw_7_50, mw_1_13, mw_7_51, ⟨rfl, by decide, by decide, by decide +kernel⟩⟩
set_option maxHeartbeats 4000000 in
set_option maxRecDepth 100000 in
theorem law_c2 {p : Program} {e : Env} {s : State} {m : MethodId} {below : List Frame} {meth : Method} {c : Code} (l : Launch) {b Ls : Nat} {xs : Nat → Int32} (hLs : Ls ≤ 3072) (hx : p.tables.exec = Jvm.exec) (hb : c.code = code) (hr : meth.sig.returnType = ret) (hml : c.maxLocals = 4) (hown : s.vm.findClass RL = some m.cls) (hts : ∀ w ∈ wsA, w.before #[Value.ref b] s = true) (hX : va_X b Ls xs s s.heap) (hbl : b < s.heap.size) (hlocks : meth.locks = false) (D : va_G) (cA : Nat → ClassId) (hK : va_K D vwCl (tyA cA) s) (hN : NW s) (adK adV : Nat → Nat) (L : List Nat) (T : Nat → Nat) (r : Rg) (hLA : LA (fun q : Nat => s.heap.size ≤ q) L) (hG : GR L T r) (hV : SWL adK adV L s) (qx : Nat) (mqx : qx ∈ L) (tqx : T qx = 11) (bw : Nat) (mbw : bw ∈ L) (tbw : T bw = 10) (w0 : Nat) (mw0 : w0 ∈ L) (tw0 : T w0 = 13) (w1 : Nat) (mw1 : w1 ∈ L) (tw1 : T w1 = 14) (w2 : Nat) (mw2 : w2 ∈ L) (tw2 : T w2 = 15) (w3 : Nat) (mw3 : w3 ∈ L) (tw3 : T w3 = 16) (qm : Nat) (mqm : qm ∈ L) (tqm : T qm = 12) (bg : Nat) (mbg : bg ∈ L) (tbg : T bg = 62) (bk : Nat) (mbk : bk ∈ L) (tbk : T bk = 64) (bc : Nat) (mbc : bc ∈ L) (tbc : T bc = 65) (bx : Nat) (mbx : bx ∈ L) (tbx : T bx = 84) (bi : Nat) (mbi : bi ∈ L) (tbi : T bi = 85) (bf : Nat) (mbf : bf ∈ L) (tbf : T bf = 83) (ba : Nat) (mba : ba ∈ L) (tba : T ba = 60) (hbw : r qx 3 = some bw) (hba : r qx 4 = some ba) (hbg : r qm 3 = some bg) (hbk : r qm 5 = some bk) (hbc : r qm 6 = some bc) (hbx : r qm 42 = some bx) (hbi : r qm 43 = some bi) (hbf : r qm 41 = some bf) (hw0 : r ba 0 = some w0) (hw1 : r ba 1 = some w1) (hw2 : r ba 2 = some w2) (hw3 : r ba 3 = some w3) (hLG : LG T qx bw w0 w1 w2 w3 qm bg bk bc bx bi bf) (i : Int32) (li : 0 ≤ i.toInt) (ui : i.toInt ≤ 3066) (vi : i.toInt + 6 ≤ Ls) (σ0 σ : Sg) (ρ : Lg) (H : Heap) (hB : TS D cA L T r ry msL σ0 σ ρ H) (hI : LI σ qx bw w0 w1 w2 w3 qm bg bk bc bx bi bf) (locs : List Loc) (hS : va_S (fun q : Nat => s.heap.size ≤ q) s.heap H locs) (ls : Array Slot) (hl : lv_has ls 4 [(3, .int i), (2, .ref qm), (1, .ref qx), (0, .ref b)]) (kk : ∀ (σ2 : Sg) (ρ2 : Lg) (H : Heap) (locs : List Loc), TS D cA L T r ry msL σ0 σ2 ρ2 H → LI σ2 qx bw w0 w1 w2 w3 qm bg bk bc bx bi bf → va_S (fun q : Nat => s.heap.size ≤ q) s.heap H locs → W p l e room_1 s m #[Value.ref b] below meth c H locs 378 16064 (lw_Z below #[Value.ref b] s) (F0 m 1240 ls [])) : W p l e room_1 s m #[Value.ref b] below meth c H locs 378 16064 (lw_Z below #[Value.ref b] s) (F0 m 278 ls []) := by
  have hA : ∀ q : Nat, s.heap.size ≤ q → (fun q : Nat => s.heap.size ≤ q) q := fun _ h => h
  have hbA : ¬ (fun q : Nat => s.heap.size ≤ q) b := Nat.not_le.mpr hbl
  refine lv_aload_n hx hb dL_law_278 rfl (lv_at hl 2 rfl) ?_
  refine t_ci (va_runV (As := []) (rest := []) ⟨hx, hb, hml, hown, hts⟩ (cy_X11_hill l D cA L T r hG hLA.1 σ ρ hB.2.1 _ adK adV qx mqx tqx) (cV hts mv_X11_hill mw_3_16 rfl rfl ⟨Nat.le_of_ble_eq_true rfl, Nat.le_of_ble_eq_true rfl⟩) (pVz hB.1 hK hN mqx tqx (show shp cA 11 _ _ _ = .inr (11, Fs11 _ _ _) from rfl) rfl (hV.to hS)) rfl rfl hl.1 rfl (lv_room (Nat.le_of_ble_eq_true rfl)) dL_law_279 ⟨Nat.le_of_ble_eq_true rfl, Nat.le_of_ble_eq_true rfl⟩) hLA hA hB hS (by decide) (fun x_3 σ_1 ρ_2 H locs hB fσ_1 pσ_1 hS => ?_)
  have hI_4 : LI σ_1 qx bw w0 w1 w2 w3 qm bg bk bc bx bi bf := LI.fr hLG hI fσ_1 (by decide)
  refine lv_pop hx hb dL_law_282 rfl ?_
  refine lv_aload_n hx hb dL_law_283 rfl (lv_at hl 1 rfl) ?_
  refine t_ci (va_runV (As := []) (rest := []) ⟨hx, hb, hml, hown, hts⟩ (cy_X12_hill l D cA L T r hG hLA.1 σ_1 ρ_2 hB.2.1 _ qm mqm tqm) (cV hts mv_X12_hill mw_7_48 rfl rfl ⟨Nat.le_of_ble_eq_true rfl, Nat.le_of_ble_eq_true rfl⟩) (pV hB.1 hK hN mqm tqm (show shp cA 12 _ _ _ = .inr (12, Fs12 _ _ _) from rfl) rfl) rfl rfl hl.1 rfl (lv_room (Nat.le_of_ble_eq_true rfl)) dL_law_284 ⟨Nat.le_of_ble_eq_true rfl, Nat.le_of_ble_eq_true rfl⟩) hLA hA hB hS (by decide) (fun x_7 σ_5 ρ_6 H locs hB fσ_5 pσ_5 hS => ?_)
  have hI_8 : LI σ_5 qx bw w0 w1 w2 w3 qm bg bk bc bx bi bf := LI.fr hLG hI_4 fσ_5 (by decide)
  refine lv_pop hx hb dL_law_287 rfl ?_
  refine lv_goto (tgt := 1240) hx hb dL_law_288 (by decide) ?_
  exact kk _ _ _ _ hB hI_8 hS
theorem mw_4_16 : (.instanceMethod yX11_rule : Cond) ∈ wsA := wsA_t (List.mem_append_right _ (List.mem_append_right _ (List.mem_append_right _ (List.mem_append_left _ (List.mem_of_getElem? (l := tables_1_4) (i := 16) rfl))))) rfl
theorem mw_4_17 : (.selects RX11 yX11_rule yX11_rule : Cond) ∈ wsA := wsA_t (List.mem_append_right _ (List.mem_append_right _ (List.mem_append_right _ (List.mem_append_left _ (List.mem_of_getElem? (l := tables_1_4) (i := 17) rfl))))) rfl
theorem mw_4_18 : (.code yX11_rule cX11_rule 2 (some .int) : Cond) ∈ wsA := wsA_t (List.mem_append_right _ (List.mem_append_right _ (List.mem_append_right _ (List.mem_append_left _ (List.mem_of_getElem? (l := tables_1_4) (i := 18) rfl))))) rfl
theorem mw_4_15 : (.methodLink RL 28 yX11_rule : Cond) ∈ wsA := wsA_t (List.mem_append_right _ (List.mem_append_right _ (List.mem_append_right _ (List.mem_append_left _ (List.mem_of_getElem? (l := tables_1_4) (i := 15) rfl))))) rfl
theorem mw_6_123 : (.instanceMethod yX12_rule : Cond) ∈ wsA := wsA_t (List.mem_append_right _ (List.mem_append_right _ (List.mem_append_right _ (List.mem_append_right _ (List.mem_append_right _ (List.mem_append_left _ (List.mem_of_getElem? (l := tables_1_6) (i := 123) rfl))))))) rfl
theorem mw_6_124 : (.selects RX12 yX12_rule yX12_rule : Cond) ∈ wsA := wsA_t (List.mem_append_right _ (List.mem_append_right _ (List.mem_append_right _ (List.mem_append_right _ (List.mem_append_right _ (List.mem_append_left _ (List.mem_of_getElem? (l := tables_1_6) (i := 124) rfl))))))) rfl
theorem mw_6_125 : (.code yX12_rule cX12_rule 1 (some .int) : Cond) ∈ wsA := wsA_t (List.mem_append_right _ (List.mem_append_right _ (List.mem_append_right _ (List.mem_append_right _ (List.mem_append_right _ (List.mem_append_left _ (List.mem_of_getElem? (l := tables_1_6) (i := 125) rfl))))))) rfl
theorem mw_6_122 : (.methodLink RL 31 yX12_rule : Cond) ∈ wsA := wsA_t (List.mem_append_right _ (List.mem_append_right _ (List.mem_append_right _ (List.mem_append_right _ (List.mem_append_right _ (List.mem_append_left _ (List.mem_of_getElem? (l := tables_1_6) (i := 122) rfl))))))) rfl
theorem dL_law_291 : decode cL_law 291 = .ok (.aload_n 1, 1) := by decide +kernel
theorem dL_law_292 : decode cL_law 292 = .ok (.invokevirtual 28, 3) := by decide +kernel
theorem dL_law_295 : decode cL_law 295 = .ok (.pop, 1) := by decide +kernel
theorem dL_law_296 : decode cL_law 296 = .ok (.aload_n 2, 1) := by decide +kernel
theorem dL_law_297 : decode cL_law 297 = .ok (.invokevirtual 31, 3) := by decide +kernel
theorem dL_law_300 : decode cL_law 300 = .ok (.pop, 1) := by decide +kernel
theorem dL_law_301 : decode cL_law 301 = .ok (.goto 939, 3) := by decide +kernel
theorem mv_X11_rule : MV RX11 yX11_rule cX11_rule 2 (some .int) 0 := ⟨mw_4_16, mw_4_17, mw_1_1, mw_4_18, ⟨rfl, by decide, by decide, by decide +kernel⟩⟩
theorem mv_X12_rule : MV RX12 yX12_rule cX12_rule 1 (some .int) 0 := ⟨mw_6_123, mw_6_124, mw_1_13, mw_6_125, ⟨rfl, by decide, by decide, by decide +kernel⟩⟩
set_option maxHeartbeats 4000000 in
set_option maxRecDepth 100000 in
theorem law_c3 {p : Program} {e : Env} {s : State} {m : MethodId} {below : List Frame} {meth : Method} {c : Code} (l : Launch) {b Ls : Nat} {xs : Nat → Int32} (hLs : Ls ≤ 3072) (hx : p.tables.exec = Jvm.exec) (hb : c.code = code) (hr : meth.sig.returnType = ret) (hml : c.maxLocals = 4) (hown : s.vm.findClass RL = some m.cls) (hts : ∀ w ∈ wsA, w.before #[Value.ref b] s = true) (hX : va_X b Ls xs s s.heap) (hbl : b < s.heap.size) (hlocks : meth.locks = false) (D : va_G) (cA : Nat → ClassId) (hK : va_K D vwCl (tyA cA) s) (hN : NW s) (adK adV : Nat → Nat) (L : List Nat) (T : Nat → Nat) (r : Rg) (hLA : LA (fun q : Nat => s.heap.size ≤ q) L) (hG : GR L T r) (hV : SWL adK adV L s) (qx : Nat) (mqx : qx ∈ L) (tqx : T qx = 11) (bw : Nat) (mbw : bw ∈ L) (tbw : T bw = 10) (w0 : Nat) (mw0 : w0 ∈ L) (tw0 : T w0 = 13) (w1 : Nat) (mw1 : w1 ∈ L) (tw1 : T w1 = 14) (w2 : Nat) (mw2 : w2 ∈ L) (tw2 : T w2 = 15) (w3 : Nat) (mw3 : w3 ∈ L) (tw3 : T w3 = 16) (qm : Nat) (mqm : qm ∈ L) (tqm : T qm = 12) (bg : Nat) (mbg : bg ∈ L) (tbg : T bg = 62) (bk : Nat) (mbk : bk ∈ L) (tbk : T bk = 64) (bc : Nat) (mbc : bc ∈ L) (tbc : T bc = 65) (bx : Nat) (mbx : bx ∈ L) (tbx : T bx = 84) (bi : Nat) (mbi : bi ∈ L) (tbi : T bi = 85) (bf : Nat) (mbf : bf ∈ L) (tbf : T bf = 83) (ba : Nat) (mba : ba ∈ L) (tba : T ba = 60) (hbw : r qx 3 = some bw) (hba : r qx 4 = some ba) (hbg : r qm 3 = some bg) (hbk : r qm 5 = some bk) (hbc : r qm 6 = some bc) (hbx : r qm 42 = some bx) (hbi : r qm 43 = some bi) (hbf : r qm 41 = some bf) (hw0 : r ba 0 = some w0) (hw1 : r ba 1 = some w1) (hw2 : r ba 2 = some w2) (hw3 : r ba 3 = some w3) (hLG : LG T qx bw w0 w1 w2 w3 qm bg bk bc bx bi bf) (i : Int32) (li : 0 ≤ i.toInt) (ui : i.toInt ≤ 3066) (vi : i.toInt + 6 ≤ Ls) (σ0 σ : Sg) (ρ : Lg) (H : Heap) (hB : TS D cA L T r ry msL σ0 σ ρ H) (hI : LI σ qx bw w0 w1 w2 w3 qm bg bk bc bx bi bf) (locs : List Loc) (hS : va_S (fun q : Nat => s.heap.size ≤ q) s.heap H locs) (ls : Array Slot) (hl : lv_has ls 4 [(3, .int i), (2, .ref qm), (1, .ref qx), (0, .ref b)]) (kk : ∀ (σ2 : Sg) (ρ2 : Lg) (H : Heap) (locs : List Loc), TS D cA L T r ry msL σ0 σ2 ρ2 H → LI σ2 qx bw w0 w1 w2 w3 qm bg bk bc bx bi bf → va_S (fun q : Nat => s.heap.size ≤ q) s.heap H locs → W p l e room_1 s m #[Value.ref b] below meth c H locs 378 16064 (lw_Z below #[Value.ref b] s) (F0 m 1240 ls [])) : W p l e room_1 s m #[Value.ref b] below meth c H locs 378 16064 (lw_Z below #[Value.ref b] s) (F0 m 291 ls []) := by
  have hA : ∀ q : Nat, s.heap.size ≤ q → (fun q : Nat => s.heap.size ≤ q) q := fun _ h => h
  have hbA : ¬ (fun q : Nat => s.heap.size ≤ q) b := Nat.not_le.mpr hbl
  refine lv_aload_n hx hb dL_law_291 rfl (lv_at hl 2 rfl) ?_
  refine t_ci (va_runV (As := []) (rest := []) ⟨hx, hb, hml, hown, hts⟩ (cy_X11_rule l D cA L T r hG hLA.1 σ ρ hB.2.1 _ adK adV qx mqx tqx) (cV hts mv_X11_rule mw_4_15 rfl rfl ⟨Nat.le_of_ble_eq_true rfl, Nat.le_of_ble_eq_true rfl⟩) (pVz hB.1 hK hN mqx tqx (show shp cA 11 _ _ _ = .inr (11, Fs11 _ _ _) from rfl) rfl (hV.to hS)) rfl rfl hl.1 rfl (lv_room (Nat.le_of_ble_eq_true rfl)) dL_law_292 ⟨Nat.le_of_ble_eq_true rfl, Nat.le_of_ble_eq_true rfl⟩) hLA hA hB hS (by decide) (fun x_3 σ_1 ρ_2 H locs hB fσ_1 pσ_1 hS => ?_)
  have hI_4 : LI σ_1 qx bw w0 w1 w2 w3 qm bg bk bc bx bi bf := LI.fr hLG hI fσ_1 (by decide)
  refine lv_pop hx hb dL_law_295 rfl ?_
  refine lv_aload_n hx hb dL_law_296 rfl (lv_at hl 1 rfl) ?_
  obtain ⟨b_5, hb_5, mb_5, tb_5⟩ := hG qm mqm 0 _ (by rw [tqm]; rfl)
  obtain ⟨b_6, hb_6, mb_6, tb_6⟩ := hG qm mqm 4 _ (by rw [tqm]; rfl)
  refine t_ci (va_runV (As := []) (rest := []) ⟨hx, hb, hml, hown, hts⟩ (cz_X12_rule l D cA L T r hG hLA.1 σ_1 ρ_2 hB.2.1 _ qm mqm tqm b_5 hb_5 mb_5 tb_5 bg hbg mbg tbg b_6 hb_6 mb_6 tb_6 bk hbk mbk tbk bc hbc mbc tbc hI_4.1) (cV hts mv_X12_rule mw_6_122 rfl rfl ⟨Nat.le_of_ble_eq_true rfl, Nat.le_of_ble_eq_true rfl⟩) (pV hB.1 hK hN mqm tqm (show shp cA 12 _ _ _ = .inr (12, Fs12 _ _ _) from rfl) rfl) rfl rfl hl.1 rfl (lv_room (Nat.le_of_ble_eq_true rfl)) dL_law_297 ⟨Nat.le_of_ble_eq_true rfl, Nat.le_of_ble_eq_true rfl⟩) hLA hA hB hS (by decide) (fun x_9 σ_7 ρ_8 H locs hB fσ_7 pσ_7 hS => ?_)
  obtain ⟨g_10, g_11⟩ := pσ_7
  have hI_12 : LI σ_7 qx bw w0 w1 w2 w3 qm bg bk bc bx bi bf := LI.rl hI_4 g_10 (by rw [FR.at fσ_7 tqm (j := 21) (by decide)]; have z := hI_4.2.1; omega) g_11 (FR.row fσ_7 tbf (fun j => by simp)) (FR.at fσ_7 tbw (by decide)) (FR.at fσ_7 tqm (by decide)) (FR.at fσ_7 tw0 (by decide)) (FR.at fσ_7 tw1 (by decide)) (FR.at fσ_7 tw2 (by decide)) (FR.at fσ_7 tw3 (by decide)) (FR.row fσ_7 tbx (fun j => by simp)) (FR.row fσ_7 tbi (fun j => by simp)) (FR.at fσ_7 tqx (by decide))
  refine lv_pop hx hb dL_law_300 rfl ?_
  refine lv_goto (tgt := 1240) hx hb dL_law_301 (by decide) ?_
  exact kk _ _ _ _ hB hI_12 hS
theorem mw_4_63 : (.instanceMethod yX11_force : Cond) ∈ wsA := wsA_t (List.mem_append_right _ (List.mem_append_right _ (List.mem_append_right _ (List.mem_append_left _ (List.mem_of_getElem? (l := tables_1_4) (i := 63) rfl))))) rfl
theorem mw_4_64 : (.selects RX11 yX11_force yX11_force : Cond) ∈ wsA := wsA_t (List.mem_append_right _ (List.mem_append_right _ (List.mem_append_right _ (List.mem_append_left _ (List.mem_of_getElem? (l := tables_1_4) (i := 64) rfl))))) rfl
theorem mw_4_65 : (.code yX11_force cX11_force 3 (some .int) : Cond) ∈ wsA := wsA_t (List.mem_append_right _ (List.mem_append_right _ (List.mem_append_right _ (List.mem_append_left _ (List.mem_of_getElem? (l := tables_1_4) (i := 65) rfl))))) rfl
theorem mw_4_62 : (.methodLink RL 32 yX11_force : Cond) ∈ wsA := wsA_t (List.mem_append_right _ (List.mem_append_right _ (List.mem_append_right _ (List.mem_append_left _ (List.mem_of_getElem? (l := tables_1_4) (i := 62) rfl))))) rfl
theorem mw_7_53 : (.instanceMethod yX12_force : Cond) ∈ wsA := wsA_t (List.mem_append_right _ (List.mem_append_right _ (List.mem_append_right _ (List.mem_append_right _ (List.mem_append_right _ (List.mem_append_right _ (List.mem_append_left _ (List.mem_of_getElem? (l := tables_1_7) (i := 53) rfl)))))))) rfl
theorem mw_7_54 : (.selects RX12 yX12_force yX12_force : Cond) ∈ wsA := wsA_t (List.mem_append_right _ (List.mem_append_right _ (List.mem_append_right _ (List.mem_append_right _ (List.mem_append_right _ (List.mem_append_right _ (List.mem_append_left _ (List.mem_of_getElem? (l := tables_1_7) (i := 54) rfl)))))))) rfl
theorem mw_7_55 : (.code yX12_force cX12_force 3 (some .int) : Cond) ∈ wsA := wsA_t (List.mem_append_right _ (List.mem_append_right _ (List.mem_append_right _ (List.mem_append_right _ (List.mem_append_right _ (List.mem_append_right _ (List.mem_append_left _ (List.mem_of_getElem? (l := tables_1_7) (i := 55) rfl)))))))) rfl
theorem mw_7_52 : (.methodLink RL 35 yX12_force : Cond) ∈ wsA := wsA_t (List.mem_append_right _ (List.mem_append_right _ (List.mem_append_right _ (List.mem_append_right _ (List.mem_append_right _ (List.mem_append_right _ (List.mem_append_left _ (List.mem_of_getElem? (l := tables_1_7) (i := 52) rfl)))))))) rfl
theorem dL_law_304 : decode cL_law 304 = .ok (.aload_n 1, 1) := by decide +kernel
theorem dL_law_305 : decode cL_law 305 = .ok (.aload_n 0, 1) := by decide +kernel
theorem dL_law_306 : decode cL_law 306 = .ok (.iload_n 3, 1) := by decide +kernel
theorem dL_law_307 : decode cL_law 307 = .ok (.iconst 1, 1) := by decide +kernel
theorem dL_law_308 : decode cL_law 308 = .ok (.iadd, 1) := by decide +kernel
theorem dL_law_309 : decode cL_law 309 = .ok (.iaload, 1) := by decide +kernel
theorem dL_law_310 : decode cL_law 310 = .ok (.invokevirtual 32, 3) := by decide +kernel
theorem dL_law_313 : decode cL_law 313 = .ok (.pop, 1) := by decide +kernel
theorem dL_law_314 : decode cL_law 314 = .ok (.aload_n 2, 1) := by decide +kernel
theorem dL_law_315 : decode cL_law 315 = .ok (.aload_n 0, 1) := by decide +kernel
theorem dL_law_316 : decode cL_law 316 = .ok (.iload_n 3, 1) := by decide +kernel
theorem dL_law_317 : decode cL_law 317 = .ok (.iconst 1, 1) := by decide +kernel
theorem dL_law_318 : decode cL_law 318 = .ok (.iadd, 1) := by decide +kernel
theorem dL_law_319 : decode cL_law 319 = .ok (.iaload, 1) := by decide +kernel
theorem dL_law_320 : decode cL_law 320 = .ok (.invokevirtual 35, 3) := by decide +kernel
theorem dL_law_323 : decode cL_law 323 = .ok (.pop, 1) := by decide +kernel
theorem dL_law_324 : decode cL_law 324 = .ok (.goto 916, 3) := by decide +kernel
theorem mv_X11_force : MV RX11 yX11_force cX11_force 3 (some .int) 1 := ⟨mw_4_63, mw_4_64, mw_1_1, mw_4_65, ⟨rfl, by decide, by decide, by decide +kernel⟩⟩
theorem mv_X12_force : MV RX12 yX12_force cX12_force 3 (some .int) 1 := ⟨mw_7_53, mw_7_54, mw_1_13, mw_7_55, ⟨rfl, by decide, by decide, by decide +kernel⟩⟩
set_option maxHeartbeats 4000000 in
set_option maxRecDepth 100000 in
theorem law_c4 {p : Program} {e : Env} {s : State} {m : MethodId} {below : List Frame} {meth : Method} {c : Code} (l : Launch) {b Ls : Nat} {xs : Nat → Int32} (hLs : Ls ≤ 3072) (hx : p.tables.exec = Jvm.exec) (hb : c.code = code) (hr : meth.sig.returnType = ret) (hml : c.maxLocals = 4) (hown : s.vm.findClass RL = some m.cls) (hts : ∀ w ∈ wsA, w.before #[Value.ref b] s = true) (hX : va_X b Ls xs s s.heap) (hbl : b < s.heap.size) (hlocks : meth.locks = false) (D : va_G) (cA : Nat → ClassId) (hK : va_K D vwCl (tyA cA) s) (hN : NW s) (adK adV : Nat → Nat) (L : List Nat) (T : Nat → Nat) (r : Rg) (hLA : LA (fun q : Nat => s.heap.size ≤ q) L) (hG : GR L T r) (hV : SWL adK adV L s) (qx : Nat) (mqx : qx ∈ L) (tqx : T qx = 11) (bw : Nat) (mbw : bw ∈ L) (tbw : T bw = 10) (w0 : Nat) (mw0 : w0 ∈ L) (tw0 : T w0 = 13) (w1 : Nat) (mw1 : w1 ∈ L) (tw1 : T w1 = 14) (w2 : Nat) (mw2 : w2 ∈ L) (tw2 : T w2 = 15) (w3 : Nat) (mw3 : w3 ∈ L) (tw3 : T w3 = 16) (qm : Nat) (mqm : qm ∈ L) (tqm : T qm = 12) (bg : Nat) (mbg : bg ∈ L) (tbg : T bg = 62) (bk : Nat) (mbk : bk ∈ L) (tbk : T bk = 64) (bc : Nat) (mbc : bc ∈ L) (tbc : T bc = 65) (bx : Nat) (mbx : bx ∈ L) (tbx : T bx = 84) (bi : Nat) (mbi : bi ∈ L) (tbi : T bi = 85) (bf : Nat) (mbf : bf ∈ L) (tbf : T bf = 83) (ba : Nat) (mba : ba ∈ L) (tba : T ba = 60) (hbw : r qx 3 = some bw) (hba : r qx 4 = some ba) (hbg : r qm 3 = some bg) (hbk : r qm 5 = some bk) (hbc : r qm 6 = some bc) (hbx : r qm 42 = some bx) (hbi : r qm 43 = some bi) (hbf : r qm 41 = some bf) (hw0 : r ba 0 = some w0) (hw1 : r ba 1 = some w1) (hw2 : r ba 2 = some w2) (hw3 : r ba 3 = some w3) (hLG : LG T qx bw w0 w1 w2 w3 qm bg bk bc bx bi bf) (i : Int32) (li : 0 ≤ i.toInt) (ui : i.toInt ≤ 3066) (vi : i.toInt + 6 ≤ Ls) (σ0 σ : Sg) (ρ : Lg) (H : Heap) (hB : TS D cA L T r ry msL σ0 σ ρ H) (hI : LI σ qx bw w0 w1 w2 w3 qm bg bk bc bx bi bf) (locs : List Loc) (hS : va_S (fun q : Nat => s.heap.size ≤ q) s.heap H locs) (ls : Array Slot) (hl : lv_has ls 4 [(3, .int i), (2, .ref qm), (1, .ref qx), (0, .ref b)]) (kk : ∀ (σ2 : Sg) (ρ2 : Lg) (H : Heap) (locs : List Loc), TS D cA L T r ry msL σ0 σ2 ρ2 H → LI σ2 qx bw w0 w1 w2 w3 qm bg bk bc bx bi bf → va_S (fun q : Nat => s.heap.size ≤ q) s.heap H locs → W p l e room_1 s m #[Value.ref b] below meth c H locs 378 16064 (lw_Z below #[Value.ref b] s) (F0 m 1240 ls [])) : W p l e room_1 s m #[Value.ref b] below meth c H locs 378 16064 (lw_Z below #[Value.ref b] s) (F0 m 304 ls []) := by
  have hA : ∀ q : Nat, s.heap.size ≤ q → (fun q : Nat => s.heap.size ≤ q) q := fun _ h => h
  have hbA : ¬ (fun q : Nat => s.heap.size ≤ q) b := Nat.not_le.mpr hbl
  refine lv_aload_n hx hb dL_law_304 rfl (lv_at hl 2 rfl) ?_
  refine lv_aload_n hx hb dL_law_305 rfl (lv_at hl 3 rfl) ?_
  refine lv_iload_n hx hb dL_law_306 rfl (lv_at hl 0 rfl) ?_
  refine lv_iconst (v := 1) hx hb dL_law_307 (by decide) ?_
  refine lv_iadd hx hb dL_law_308 ?_
  refine lv_topi (fun x_1 ex_1 => ?_)
  have vx_1 := b_add (rfl : i.toInt = _) (by decide : (1 : Int32).toInt = 1) ex_1 (by omega) (by omega)
  refine va_sld hx hb hX hbl hbA hS (i_in (by omega) (by omega)) dL_law_309 ?_
  refine tp_i (w := xs (i.toInt.toNat + 1)) (by rw [show x_1.toNatClampNeg = i.toInt.toNat + 1 from (by have hn : x_1.toNatClampNeg = x_1.toInt.toNat := rfl; omega)]) ?_
  refine t_ci (va_runV (As := [.int (xs (i.toInt.toNat + 1))]) (rest := []) ⟨hx, hb, hml, hown, hts⟩ (cy_X11_force l D cA L T r hG hLA.1 σ ρ hB.2.1 _ qx mqx tqx (xs (i.toInt.toNat + 1))) (cV hts mv_X11_force mw_4_62 rfl rfl ⟨Nat.le_of_ble_eq_true rfl, Nat.le_of_ble_eq_true rfl⟩) (pV hB.1 hK hN mqx tqx (show shp cA 11 _ _ _ = .inr (11, Fs11 _ _ _) from rfl) rfl) rfl rfl hl.1 rfl (lv_room (Nat.le_of_ble_eq_true rfl)) dL_law_310 ⟨Nat.le_of_ble_eq_true rfl, Nat.le_of_ble_eq_true rfl⟩) hLA hA hB hS (by decide) (fun x_4 σ_2 ρ_3 H locs hB fσ_2 pσ_2 hS => ?_)
  have hI_5 : LI σ_2 qx bw w0 w1 w2 w3 qm bg bk bc bx bi bf := LI.fr hLG hI fσ_2 (by decide)
  refine lv_pop hx hb dL_law_313 rfl ?_
  refine lv_aload_n hx hb dL_law_314 rfl (lv_at hl 1 rfl) ?_
  refine lv_aload_n hx hb dL_law_315 rfl (lv_at hl 3 rfl) ?_
  refine lv_iload_n hx hb dL_law_316 rfl (lv_at hl 0 rfl) ?_
  refine lv_iconst (v := 1) hx hb dL_law_317 (by decide) ?_
  refine lv_iadd hx hb dL_law_318 ?_
  refine lv_topi (fun x_6 ex_6 => ?_)
  have vx_6 := b_add (rfl : i.toInt = _) (by decide : (1 : Int32).toInt = 1) ex_6 (by omega) (by omega)
  refine va_sld hx hb hX hbl hbA hS (i_in (by omega) (by omega)) dL_law_319 ?_
  refine tp_i (w := xs (i.toInt.toNat + 1)) (by rw [show x_6.toNatClampNeg = i.toInt.toNat + 1 from (by have hn : x_6.toNatClampNeg = x_6.toInt.toNat := rfl; omega)]) ?_
  refine t_ci (va_runV (As := [.int (xs (i.toInt.toNat + 1))]) (rest := []) ⟨hx, hb, hml, hown, hts⟩ (cz_X12_force l D cA L T r hG hLA.1 σ_2 ρ_3 hB.2.1 _ qm mqm tqm (xs (i.toInt.toNat + 1)) hI_5.2.1) (cV hts mv_X12_force mw_7_52 rfl rfl ⟨Nat.le_of_ble_eq_true rfl, Nat.le_of_ble_eq_true rfl⟩) (pV hB.1 hK hN mqm tqm (show shp cA 12 _ _ _ = .inr (12, Fs12 _ _ _) from rfl) rfl) rfl rfl hl.1 rfl (lv_room (Nat.le_of_ble_eq_true rfl)) dL_law_320 ⟨Nat.le_of_ble_eq_true rfl, Nat.le_of_ble_eq_true rfl⟩) hLA hA hB hS (by decide) (fun x_9 σ_7 ρ_8 H locs hB fσ_7 pσ_7 hS => ?_)
  have hI_10 : LI σ_7 qx bw w0 w1 w2 w3 qm bg bk bc bx bi bf := LI.rl hI_5 (by rw [FR.row fσ_7 tbg (fun j => by simp), FR.row fσ_7 tbk (fun j => by simp), FR.row fσ_7 tbc (fun j => by simp), FR.at fσ_7 tqm (j := 2) (by decide)]; exact hI_5.1) pσ_7 (by rw [FR.at fσ_7 tqm (j := 2) (by decide)]; omega) (FR.row fσ_7 tbf (fun j => by simp)) (FR.at fσ_7 tbw (by decide)) (FR.at fσ_7 tqm (by decide)) (FR.at fσ_7 tw0 (by decide)) (FR.at fσ_7 tw1 (by decide)) (FR.at fσ_7 tw2 (by decide)) (FR.at fσ_7 tw3 (by decide)) (FR.row fσ_7 tbx (fun j => by simp)) (FR.row fσ_7 tbi (fun j => by simp)) (FR.at fσ_7 tqx (by decide))
  refine lv_pop hx hb dL_law_323 rfl ?_
  refine lv_goto (tgt := 1240) hx hb dL_law_324 (by decide) ?_
  exact kk _ _ _ _ hB hI_10 hS
theorem mw_4_67 : (.instanceMethod yX11_pilgrim : Cond) ∈ wsA := wsA_t (List.mem_append_right _ (List.mem_append_right _ (List.mem_append_right _ (List.mem_append_left _ (List.mem_of_getElem? (l := tables_1_4) (i := 67) rfl))))) rfl
theorem mw_4_68 : (.selects RX11 yX11_pilgrim yX11_pilgrim : Cond) ∈ wsA := wsA_t (List.mem_append_right _ (List.mem_append_right _ (List.mem_append_right _ (List.mem_append_left _ (List.mem_of_getElem? (l := tables_1_4) (i := 68) rfl))))) rfl
theorem mw_4_69 : (.code yX11_pilgrim cX11_pilgrim 4 (some .int) : Cond) ∈ wsA := wsA_t (List.mem_append_right _ (List.mem_append_right _ (List.mem_append_right _ (List.mem_append_left _ (List.mem_of_getElem? (l := tables_1_4) (i := 69) rfl))))) rfl
theorem mw_4_66 : (.methodLink RL 36 yX11_pilgrim : Cond) ∈ wsA := wsA_t (List.mem_append_right _ (List.mem_append_right _ (List.mem_append_right _ (List.mem_append_left _ (List.mem_of_getElem? (l := tables_1_4) (i := 66) rfl))))) rfl
theorem mw_7_61 : (.instanceMethod yX12_pilgrim : Cond) ∈ wsA := wsA_t (List.mem_append_right _ (List.mem_append_right _ (List.mem_append_right _ (List.mem_append_right _ (List.mem_append_right _ (List.mem_append_right _ (List.mem_append_left _ (List.mem_of_getElem? (l := tables_1_7) (i := 61) rfl)))))))) rfl
theorem mw_7_62 : (.selects RX12 yX12_pilgrim yX12_pilgrim : Cond) ∈ wsA := wsA_t (List.mem_append_right _ (List.mem_append_right _ (List.mem_append_right _ (List.mem_append_right _ (List.mem_append_right _ (List.mem_append_right _ (List.mem_append_left _ (List.mem_of_getElem? (l := tables_1_7) (i := 62) rfl)))))))) rfl
theorem mw_7_63 : (.code yX12_pilgrim cX12_pilgrim 3 (some .int) : Cond) ∈ wsA := wsA_t (List.mem_append_right _ (List.mem_append_right _ (List.mem_append_right _ (List.mem_append_right _ (List.mem_append_right _ (List.mem_append_right _ (List.mem_append_left _ (List.mem_of_getElem? (l := tables_1_7) (i := 63) rfl)))))))) rfl
theorem mw_7_60 : (.methodLink RL 40 yX12_pilgrim : Cond) ∈ wsA := wsA_t (List.mem_append_right _ (List.mem_append_right _ (List.mem_append_right _ (List.mem_append_right _ (List.mem_append_right _ (List.mem_append_right _ (List.mem_append_left _ (List.mem_of_getElem? (l := tables_1_7) (i := 60) rfl)))))))) rfl
theorem dL_law_327 : decode cL_law 327 = .ok (.aload_n 1, 1) := by decide +kernel
theorem dL_law_328 : decode cL_law 328 = .ok (.aload_n 0, 1) := by decide +kernel
theorem dL_law_329 : decode cL_law 329 = .ok (.iload_n 3, 1) := by decide +kernel
theorem dL_law_330 : decode cL_law 330 = .ok (.iconst 1, 1) := by decide +kernel
theorem dL_law_331 : decode cL_law 331 = .ok (.iadd, 1) := by decide +kernel
theorem dL_law_332 : decode cL_law 332 = .ok (.iaload, 1) := by decide +kernel
theorem dL_law_333 : decode cL_law 333 = .ok (.aload_n 0, 1) := by decide +kernel
theorem dL_law_334 : decode cL_law 334 = .ok (.iload_n 3, 1) := by decide +kernel
theorem dL_law_335 : decode cL_law 335 = .ok (.iconst 2, 1) := by decide +kernel
theorem dL_law_336 : decode cL_law 336 = .ok (.iadd, 1) := by decide +kernel
theorem dL_law_337 : decode cL_law 337 = .ok (.iaload, 1) := by decide +kernel
theorem dL_law_338 : decode cL_law 338 = .ok (.invokevirtual 36, 3) := by decide +kernel
theorem dL_law_341 : decode cL_law 341 = .ok (.pop, 1) := by decide +kernel
theorem dL_law_342 : decode cL_law 342 = .ok (.aload_n 2, 1) := by decide +kernel
theorem dL_law_343 : decode cL_law 343 = .ok (.aload_n 0, 1) := by decide +kernel
theorem dL_law_344 : decode cL_law 344 = .ok (.iload_n 3, 1) := by decide +kernel
theorem dL_law_345 : decode cL_law 345 = .ok (.iconst 1, 1) := by decide +kernel
theorem dL_law_346 : decode cL_law 346 = .ok (.iadd, 1) := by decide +kernel
theorem dL_law_347 : decode cL_law 347 = .ok (.iaload, 1) := by decide +kernel
theorem dL_law_348 : decode cL_law 348 = .ok (.aload_n 0, 1) := by decide +kernel
theorem dL_law_349 : decode cL_law 349 = .ok (.iload_n 3, 1) := by decide +kernel
theorem dL_law_350 : decode cL_law 350 = .ok (.iconst 2, 1) := by decide +kernel
theorem dL_law_351 : decode cL_law 351 = .ok (.iadd, 1) := by decide +kernel
theorem dL_law_352 : decode cL_law 352 = .ok (.iaload, 1) := by decide +kernel
theorem dL_law_353 : decode cL_law 353 = .ok (.invokevirtual 40, 3) := by decide +kernel
theorem dL_law_356 : decode cL_law 356 = .ok (.pop, 1) := by decide +kernel
theorem dL_law_357 : decode cL_law 357 = .ok (.goto 883, 3) := by decide +kernel
theorem mv_X11_pilgrim : MV RX11 yX11_pilgrim cX11_pilgrim 4 (some .int) 2 := ⟨mw_4_67, mw_4_68, mw_1_1, mw_4_69, ⟨rfl, by decide, by decide, by decide +kernel⟩⟩
theorem mv_X12_pilgrim : MV RX12 yX12_pilgrim cX12_pilgrim 3 (some .int) 2 := ⟨mw_7_61, mw_7_62, mw_1_13, mw_7_63, ⟨rfl, by decide, by decide, by decide +kernel⟩⟩
set_option maxHeartbeats 4000000 in
set_option maxRecDepth 100000 in
theorem law_c5 {p : Program} {e : Env} {s : State} {m : MethodId} {below : List Frame} {meth : Method} {c : Code} (l : Launch) {b Ls : Nat} {xs : Nat → Int32} (hLs : Ls ≤ 3072) (hx : p.tables.exec = Jvm.exec) (hb : c.code = code) (hr : meth.sig.returnType = ret) (hml : c.maxLocals = 4) (hown : s.vm.findClass RL = some m.cls) (hts : ∀ w ∈ wsA, w.before #[Value.ref b] s = true) (hX : va_X b Ls xs s s.heap) (hbl : b < s.heap.size) (hlocks : meth.locks = false) (D : va_G) (cA : Nat → ClassId) (hK : va_K D vwCl (tyA cA) s) (hN : NW s) (adK adV : Nat → Nat) (L : List Nat) (T : Nat → Nat) (r : Rg) (hLA : LA (fun q : Nat => s.heap.size ≤ q) L) (hG : GR L T r) (hV : SWL adK adV L s) (qx : Nat) (mqx : qx ∈ L) (tqx : T qx = 11) (bw : Nat) (mbw : bw ∈ L) (tbw : T bw = 10) (w0 : Nat) (mw0 : w0 ∈ L) (tw0 : T w0 = 13) (w1 : Nat) (mw1 : w1 ∈ L) (tw1 : T w1 = 14) (w2 : Nat) (mw2 : w2 ∈ L) (tw2 : T w2 = 15) (w3 : Nat) (mw3 : w3 ∈ L) (tw3 : T w3 = 16) (qm : Nat) (mqm : qm ∈ L) (tqm : T qm = 12) (bg : Nat) (mbg : bg ∈ L) (tbg : T bg = 62) (bk : Nat) (mbk : bk ∈ L) (tbk : T bk = 64) (bc : Nat) (mbc : bc ∈ L) (tbc : T bc = 65) (bx : Nat) (mbx : bx ∈ L) (tbx : T bx = 84) (bi : Nat) (mbi : bi ∈ L) (tbi : T bi = 85) (bf : Nat) (mbf : bf ∈ L) (tbf : T bf = 83) (ba : Nat) (mba : ba ∈ L) (tba : T ba = 60) (hbw : r qx 3 = some bw) (hba : r qx 4 = some ba) (hbg : r qm 3 = some bg) (hbk : r qm 5 = some bk) (hbc : r qm 6 = some bc) (hbx : r qm 42 = some bx) (hbi : r qm 43 = some bi) (hbf : r qm 41 = some bf) (hw0 : r ba 0 = some w0) (hw1 : r ba 1 = some w1) (hw2 : r ba 2 = some w2) (hw3 : r ba 3 = some w3) (hLG : LG T qx bw w0 w1 w2 w3 qm bg bk bc bx bi bf) (i : Int32) (li : 0 ≤ i.toInt) (ui : i.toInt ≤ 3066) (vi : i.toInt + 6 ≤ Ls) (σ0 σ : Sg) (ρ : Lg) (H : Heap) (hB : TS D cA L T r ry msL σ0 σ ρ H) (hI : LI σ qx bw w0 w1 w2 w3 qm bg bk bc bx bi bf) (locs : List Loc) (hS : va_S (fun q : Nat => s.heap.size ≤ q) s.heap H locs) (ls : Array Slot) (hl : lv_has ls 4 [(3, .int i), (2, .ref qm), (1, .ref qx), (0, .ref b)]) (kk : ∀ (σ2 : Sg) (ρ2 : Lg) (H : Heap) (locs : List Loc), TS D cA L T r ry msL σ0 σ2 ρ2 H → LI σ2 qx bw w0 w1 w2 w3 qm bg bk bc bx bi bf → va_S (fun q : Nat => s.heap.size ≤ q) s.heap H locs → W p l e room_1 s m #[Value.ref b] below meth c H locs 378 16064 (lw_Z below #[Value.ref b] s) (F0 m 1240 ls [])) : W p l e room_1 s m #[Value.ref b] below meth c H locs 378 16064 (lw_Z below #[Value.ref b] s) (F0 m 327 ls []) := by
  have hA : ∀ q : Nat, s.heap.size ≤ q → (fun q : Nat => s.heap.size ≤ q) q := fun _ h => h
  have hbA : ¬ (fun q : Nat => s.heap.size ≤ q) b := Nat.not_le.mpr hbl
  refine lv_aload_n hx hb dL_law_327 rfl (lv_at hl 2 rfl) ?_
  refine lv_aload_n hx hb dL_law_328 rfl (lv_at hl 3 rfl) ?_
  refine lv_iload_n hx hb dL_law_329 rfl (lv_at hl 0 rfl) ?_
  refine lv_iconst (v := 1) hx hb dL_law_330 (by decide) ?_
  refine lv_iadd hx hb dL_law_331 ?_
  refine lv_topi (fun x_1 ex_1 => ?_)
  have vx_1 := b_add (rfl : i.toInt = _) (by decide : (1 : Int32).toInt = 1) ex_1 (by omega) (by omega)
  refine va_sld hx hb hX hbl hbA hS (i_in (by omega) (by omega)) dL_law_332 ?_
  refine tp_i (w := xs (i.toInt.toNat + 1)) (by rw [show x_1.toNatClampNeg = i.toInt.toNat + 1 from (by have hn : x_1.toNatClampNeg = x_1.toInt.toNat := rfl; omega)]) ?_
  refine lv_aload_n hx hb dL_law_333 rfl (lv_at hl 3 rfl) ?_
  refine lv_iload_n hx hb dL_law_334 rfl (lv_at hl 0 rfl) ?_
  refine lv_iconst (v := 2) hx hb dL_law_335 (by decide) ?_
  refine lv_iadd hx hb dL_law_336 ?_
  refine lv_topi (fun x_2 ex_2 => ?_)
  have vx_2 := b_add (rfl : i.toInt = _) (by decide : (2 : Int32).toInt = 2) ex_2 (by omega) (by omega)
  refine va_sld hx hb hX hbl hbA hS (i_in (by omega) (by omega)) dL_law_337 ?_
  refine tp_i (w := xs (i.toInt.toNat + 2)) (by rw [show x_2.toNatClampNeg = i.toInt.toNat + 2 from (by have hn : x_2.toNatClampNeg = x_2.toInt.toNat := rfl; omega)]) ?_
  refine t_ci (va_runV (As := [.int (xs (i.toInt.toNat + 1)), .int (xs (i.toInt.toNat + 2))]) (rest := []) ⟨hx, hb, hml, hown, hts⟩ (cy_X11_pilgrim l D cA L T r hG hLA.1 σ ρ hB.2.1 _ qx mqx tqx (xs (i.toInt.toNat + 1)) (xs (i.toInt.toNat + 2))) (cV hts mv_X11_pilgrim mw_4_66 rfl rfl ⟨Nat.le_of_ble_eq_true rfl, Nat.le_of_ble_eq_true rfl⟩) (pV hB.1 hK hN mqx tqx (show shp cA 11 _ _ _ = .inr (11, Fs11 _ _ _) from rfl) rfl) rfl rfl hl.1 rfl (lv_room (Nat.le_of_ble_eq_true rfl)) dL_law_338 ⟨Nat.le_of_ble_eq_true rfl, Nat.le_of_ble_eq_true rfl⟩) hLA hA hB hS (by decide) (fun x_5 σ_3 ρ_4 H locs hB fσ_3 pσ_3 hS => ?_)
  have hI_6 : LI σ_3 qx bw w0 w1 w2 w3 qm bg bk bc bx bi bf := LI.fr hLG hI fσ_3 (by decide)
  refine lv_pop hx hb dL_law_341 rfl ?_
  refine lv_aload_n hx hb dL_law_342 rfl (lv_at hl 1 rfl) ?_
  refine lv_aload_n hx hb dL_law_343 rfl (lv_at hl 3 rfl) ?_
  refine lv_iload_n hx hb dL_law_344 rfl (lv_at hl 0 rfl) ?_
  refine lv_iconst (v := 1) hx hb dL_law_345 (by decide) ?_
  refine lv_iadd hx hb dL_law_346 ?_
  refine lv_topi (fun x_7 ex_7 => ?_)
  have vx_7 := b_add (rfl : i.toInt = _) (by decide : (1 : Int32).toInt = 1) ex_7 (by omega) (by omega)
  refine va_sld hx hb hX hbl hbA hS (i_in (by omega) (by omega)) dL_law_347 ?_
  refine tp_i (w := xs (i.toInt.toNat + 1)) (by rw [show x_7.toNatClampNeg = i.toInt.toNat + 1 from (by have hn : x_7.toNatClampNeg = x_7.toInt.toNat := rfl; omega)]) ?_
  refine lv_aload_n hx hb dL_law_348 rfl (lv_at hl 3 rfl) ?_
  refine lv_iload_n hx hb dL_law_349 rfl (lv_at hl 0 rfl) ?_
  refine lv_iconst (v := 2) hx hb dL_law_350 (by decide) ?_
  refine lv_iadd hx hb dL_law_351 ?_
  refine lv_topi (fun x_8 ex_8 => ?_)
  have vx_8 := b_add (rfl : i.toInt = _) (by decide : (2 : Int32).toInt = 2) ex_8 (by omega) (by omega)
  refine va_sld hx hb hX hbl hbA hS (i_in (by omega) (by omega)) dL_law_352 ?_
  refine tp_i (w := xs (i.toInt.toNat + 2)) (by rw [show x_8.toNatClampNeg = i.toInt.toNat + 2 from (by have hn : x_8.toNatClampNeg = x_8.toInt.toNat := rfl; omega)]) ?_
  refine t_ci (va_runV (As := [.int (xs (i.toInt.toNat + 1)), .int (xs (i.toInt.toNat + 2))]) (rest := []) ⟨hx, hb, hml, hown, hts⟩ (cy_X12_pilgrim l D cA L T r hG hLA.1 σ_3 ρ_4 hB.2.1 _ qm mqm tqm (xs (i.toInt.toNat + 1)) (xs (i.toInt.toNat + 2))) (cV hts mv_X12_pilgrim mw_7_60 rfl rfl ⟨Nat.le_of_ble_eq_true rfl, Nat.le_of_ble_eq_true rfl⟩) (pV hB.1 hK hN mqm tqm (show shp cA 12 _ _ _ = .inr (12, Fs12 _ _ _) from rfl) rfl) rfl rfl hl.1 rfl (lv_room (Nat.le_of_ble_eq_true rfl)) dL_law_353 ⟨Nat.le_of_ble_eq_true rfl, Nat.le_of_ble_eq_true rfl⟩) hLA hA hB hS (by decide) (fun x_11 σ_9 ρ_10 H locs hB fσ_9 pσ_9 hS => ?_)
  have hI_12 : LI σ_9 qx bw w0 w1 w2 w3 qm bg bk bc bx bi bf := LI.fr hLG hI_6 fσ_9 (by decide)
  refine lv_pop hx hb dL_law_356 rfl ?_
  refine lv_goto (tgt := 1240) hx hb dL_law_357 (by decide) ?_
  exact kk _ _ _ _ hB hI_12 hS
theorem mw_4_76 : (.instanceMethod yX11_bend : Cond) ∈ wsA := wsA_t (List.mem_append_right _ (List.mem_append_right _ (List.mem_append_right _ (List.mem_append_left _ (List.mem_of_getElem? (l := tables_1_4) (i := 76) rfl))))) rfl
theorem mw_4_77 : (.selects RX11 yX11_bend yX11_bend : Cond) ∈ wsA := wsA_t (List.mem_append_right _ (List.mem_append_right _ (List.mem_append_right _ (List.mem_append_left _ (List.mem_of_getElem? (l := tables_1_4) (i := 77) rfl))))) rfl
theorem mw_4_78 : (.code yX11_bend cX11_bend 4 (some .int) : Cond) ∈ wsA := wsA_t (List.mem_append_right _ (List.mem_append_right _ (List.mem_append_right _ (List.mem_append_left _ (List.mem_of_getElem? (l := tables_1_4) (i := 78) rfl))))) rfl
theorem mw_4_75 : (.methodLink RL 41 yX11_bend : Cond) ∈ wsA := wsA_t (List.mem_append_right _ (List.mem_append_right _ (List.mem_append_right _ (List.mem_append_left _ (List.mem_of_getElem? (l := tables_1_4) (i := 75) rfl))))) rfl
theorem mw_7_86 : (.instanceMethod yX12_bend : Cond) ∈ wsA := wsA_t (List.mem_append_right _ (List.mem_append_right _ (List.mem_append_right _ (List.mem_append_right _ (List.mem_append_right _ (List.mem_append_right _ (List.mem_append_left _ (List.mem_of_getElem? (l := tables_1_7) (i := 86) rfl)))))))) rfl
theorem mw_7_87 : (.selects RX12 yX12_bend yX12_bend : Cond) ∈ wsA := wsA_t (List.mem_append_right _ (List.mem_append_right _ (List.mem_append_right _ (List.mem_append_right _ (List.mem_append_right _ (List.mem_append_right _ (List.mem_append_left _ (List.mem_of_getElem? (l := tables_1_7) (i := 87) rfl)))))))) rfl
theorem mw_7_88 : (.code yX12_bend cX12_bend 3 (some .int) : Cond) ∈ wsA := wsA_t (List.mem_append_right _ (List.mem_append_right _ (List.mem_append_right _ (List.mem_append_right _ (List.mem_append_right _ (List.mem_append_right _ (List.mem_append_left _ (List.mem_of_getElem? (l := tables_1_7) (i := 88) rfl)))))))) rfl
theorem mw_7_85 : (.methodLink RL 44 yX12_bend : Cond) ∈ wsA := wsA_t (List.mem_append_right _ (List.mem_append_right _ (List.mem_append_right _ (List.mem_append_right _ (List.mem_append_right _ (List.mem_append_right _ (List.mem_append_left _ (List.mem_of_getElem? (l := tables_1_7) (i := 85) rfl)))))))) rfl
theorem dL_law_360 : decode cL_law 360 = .ok (.aload_n 1, 1) := by decide +kernel
theorem dL_law_361 : decode cL_law 361 = .ok (.aload_n 0, 1) := by decide +kernel
theorem dL_law_362 : decode cL_law 362 = .ok (.iload_n 3, 1) := by decide +kernel
theorem dL_law_363 : decode cL_law 363 = .ok (.iconst 1, 1) := by decide +kernel
theorem dL_law_364 : decode cL_law 364 = .ok (.iadd, 1) := by decide +kernel
theorem dL_law_365 : decode cL_law 365 = .ok (.iaload, 1) := by decide +kernel
theorem dL_law_366 : decode cL_law 366 = .ok (.aload_n 0, 1) := by decide +kernel
theorem dL_law_367 : decode cL_law 367 = .ok (.iload_n 3, 1) := by decide +kernel
theorem dL_law_368 : decode cL_law 368 = .ok (.iconst 2, 1) := by decide +kernel
theorem dL_law_369 : decode cL_law 369 = .ok (.iadd, 1) := by decide +kernel
theorem dL_law_370 : decode cL_law 370 = .ok (.iaload, 1) := by decide +kernel
theorem dL_law_371 : decode cL_law 371 = .ok (.invokevirtual 41, 3) := by decide +kernel
theorem dL_law_374 : decode cL_law 374 = .ok (.pop, 1) := by decide +kernel
theorem dL_law_375 : decode cL_law 375 = .ok (.aload_n 2, 1) := by decide +kernel
theorem dL_law_376 : decode cL_law 376 = .ok (.aload_n 0, 1) := by decide +kernel
theorem dL_law_377 : decode cL_law 377 = .ok (.iload_n 3, 1) := by decide +kernel
theorem dL_law_378 : decode cL_law 378 = .ok (.iconst 1, 1) := by decide +kernel
theorem dL_law_379 : decode cL_law 379 = .ok (.iadd, 1) := by decide +kernel
theorem dL_law_380 : decode cL_law 380 = .ok (.iaload, 1) := by decide +kernel
theorem dL_law_381 : decode cL_law 381 = .ok (.aload_n 0, 1) := by decide +kernel
theorem dL_law_382 : decode cL_law 382 = .ok (.iload_n 3, 1) := by decide +kernel
theorem dL_law_383 : decode cL_law 383 = .ok (.iconst 2, 1) := by decide +kernel
theorem dL_law_384 : decode cL_law 384 = .ok (.iadd, 1) := by decide +kernel
theorem dL_law_385 : decode cL_law 385 = .ok (.iaload, 1) := by decide +kernel
theorem dL_law_386 : decode cL_law 386 = .ok (.invokevirtual 44, 3) := by decide +kernel
theorem dL_law_389 : decode cL_law 389 = .ok (.pop, 1) := by decide +kernel
theorem dL_law_390 : decode cL_law 390 = .ok (.goto 850, 3) := by decide +kernel
theorem mv_X11_bend : MV RX11 yX11_bend cX11_bend 4 (some .int) 2 := ⟨mw_4_76, mw_4_77, mw_1_1, mw_4_78, ⟨rfl, by decide, by decide, by decide +kernel⟩⟩
theorem mv_X12_bend : MV RX12 yX12_bend cX12_bend 3 (some .int) 2 := ⟨mw_7_86, mw_7_87, mw_1_13, mw_7_88, ⟨rfl, by decide, by decide, by decide +kernel⟩⟩
set_option maxHeartbeats 4000000 in
set_option maxRecDepth 100000 in
theorem law_c6 {p : Program} {e : Env} {s : State} {m : MethodId} {below : List Frame} {meth : Method} {c : Code} (l : Launch) {b Ls : Nat} {xs : Nat → Int32} (hLs : Ls ≤ 3072) (hx : p.tables.exec = Jvm.exec) (hb : c.code = code) (hr : meth.sig.returnType = ret) (hml : c.maxLocals = 4) (hown : s.vm.findClass RL = some m.cls) (hts : ∀ w ∈ wsA, w.before #[Value.ref b] s = true) (hX : va_X b Ls xs s s.heap) (hbl : b < s.heap.size) (hlocks : meth.locks = false) (D : va_G) (cA : Nat → ClassId) (hK : va_K D vwCl (tyA cA) s) (hN : NW s) (adK adV : Nat → Nat) (L : List Nat) (T : Nat → Nat) (r : Rg) (hLA : LA (fun q : Nat => s.heap.size ≤ q) L) (hG : GR L T r) (hV : SWL adK adV L s) (qx : Nat) (mqx : qx ∈ L) (tqx : T qx = 11) (bw : Nat) (mbw : bw ∈ L) (tbw : T bw = 10) (w0 : Nat) (mw0 : w0 ∈ L) (tw0 : T w0 = 13) (w1 : Nat) (mw1 : w1 ∈ L) (tw1 : T w1 = 14) (w2 : Nat) (mw2 : w2 ∈ L) (tw2 : T w2 = 15) (w3 : Nat) (mw3 : w3 ∈ L) (tw3 : T w3 = 16) (qm : Nat) (mqm : qm ∈ L) (tqm : T qm = 12) (bg : Nat) (mbg : bg ∈ L) (tbg : T bg = 62) (bk : Nat) (mbk : bk ∈ L) (tbk : T bk = 64) (bc : Nat) (mbc : bc ∈ L) (tbc : T bc = 65) (bx : Nat) (mbx : bx ∈ L) (tbx : T bx = 84) (bi : Nat) (mbi : bi ∈ L) (tbi : T bi = 85) (bf : Nat) (mbf : bf ∈ L) (tbf : T bf = 83) (ba : Nat) (mba : ba ∈ L) (tba : T ba = 60) (hbw : r qx 3 = some bw) (hba : r qx 4 = some ba) (hbg : r qm 3 = some bg) (hbk : r qm 5 = some bk) (hbc : r qm 6 = some bc) (hbx : r qm 42 = some bx) (hbi : r qm 43 = some bi) (hbf : r qm 41 = some bf) (hw0 : r ba 0 = some w0) (hw1 : r ba 1 = some w1) (hw2 : r ba 2 = some w2) (hw3 : r ba 3 = some w3) (hLG : LG T qx bw w0 w1 w2 w3 qm bg bk bc bx bi bf) (i : Int32) (li : 0 ≤ i.toInt) (ui : i.toInt ≤ 3066) (vi : i.toInt + 6 ≤ Ls) (σ0 σ : Sg) (ρ : Lg) (H : Heap) (hB : TS D cA L T r ry msL σ0 σ ρ H) (hI : LI σ qx bw w0 w1 w2 w3 qm bg bk bc bx bi bf) (locs : List Loc) (hS : va_S (fun q : Nat => s.heap.size ≤ q) s.heap H locs) (ls : Array Slot) (hl : lv_has ls 4 [(3, .int i), (2, .ref qm), (1, .ref qx), (0, .ref b)]) (kk : ∀ (σ2 : Sg) (ρ2 : Lg) (H : Heap) (locs : List Loc), TS D cA L T r ry msL σ0 σ2 ρ2 H → LI σ2 qx bw w0 w1 w2 w3 qm bg bk bc bx bi bf → va_S (fun q : Nat => s.heap.size ≤ q) s.heap H locs → W p l e room_1 s m #[Value.ref b] below meth c H locs 378 16064 (lw_Z below #[Value.ref b] s) (F0 m 1240 ls [])) : W p l e room_1 s m #[Value.ref b] below meth c H locs 378 16064 (lw_Z below #[Value.ref b] s) (F0 m 360 ls []) := by
  have hA : ∀ q : Nat, s.heap.size ≤ q → (fun q : Nat => s.heap.size ≤ q) q := fun _ h => h
  have hbA : ¬ (fun q : Nat => s.heap.size ≤ q) b := Nat.not_le.mpr hbl
  refine lv_aload_n hx hb dL_law_360 rfl (lv_at hl 2 rfl) ?_
  refine lv_aload_n hx hb dL_law_361 rfl (lv_at hl 3 rfl) ?_
  refine lv_iload_n hx hb dL_law_362 rfl (lv_at hl 0 rfl) ?_
  refine lv_iconst (v := 1) hx hb dL_law_363 (by decide) ?_
  refine lv_iadd hx hb dL_law_364 ?_
  refine lv_topi (fun x_1 ex_1 => ?_)
  have vx_1 := b_add (rfl : i.toInt = _) (by decide : (1 : Int32).toInt = 1) ex_1 (by omega) (by omega)
  refine va_sld hx hb hX hbl hbA hS (i_in (by omega) (by omega)) dL_law_365 ?_
  refine tp_i (w := xs (i.toInt.toNat + 1)) (by rw [show x_1.toNatClampNeg = i.toInt.toNat + 1 from (by have hn : x_1.toNatClampNeg = x_1.toInt.toNat := rfl; omega)]) ?_
  refine lv_aload_n hx hb dL_law_366 rfl (lv_at hl 3 rfl) ?_
  refine lv_iload_n hx hb dL_law_367 rfl (lv_at hl 0 rfl) ?_
  refine lv_iconst (v := 2) hx hb dL_law_368 (by decide) ?_
  refine lv_iadd hx hb dL_law_369 ?_
  refine lv_topi (fun x_2 ex_2 => ?_)
  have vx_2 := b_add (rfl : i.toInt = _) (by decide : (2 : Int32).toInt = 2) ex_2 (by omega) (by omega)
  refine va_sld hx hb hX hbl hbA hS (i_in (by omega) (by omega)) dL_law_370 ?_
  refine tp_i (w := xs (i.toInt.toNat + 2)) (by rw [show x_2.toNatClampNeg = i.toInt.toNat + 2 from (by have hn : x_2.toNatClampNeg = x_2.toInt.toNat := rfl; omega)]) ?_
  refine t_ci (va_runV (As := [.int (xs (i.toInt.toNat + 1)), .int (xs (i.toInt.toNat + 2))]) (rest := []) ⟨hx, hb, hml, hown, hts⟩ (cy_X11_bend l D cA L T r hG hLA.1 σ ρ hB.2.1 _ qx mqx tqx (xs (i.toInt.toNat + 1)) (xs (i.toInt.toNat + 2))) (cV hts mv_X11_bend mw_4_75 rfl rfl ⟨Nat.le_of_ble_eq_true rfl, Nat.le_of_ble_eq_true rfl⟩) (pV hB.1 hK hN mqx tqx (show shp cA 11 _ _ _ = .inr (11, Fs11 _ _ _) from rfl) rfl) rfl rfl hl.1 rfl (lv_room (Nat.le_of_ble_eq_true rfl)) dL_law_371 ⟨Nat.le_of_ble_eq_true rfl, Nat.le_of_ble_eq_true rfl⟩) hLA hA hB hS (by decide) (fun x_5 σ_3 ρ_4 H locs hB fσ_3 pσ_3 hS => ?_)
  have hI_6 : LI σ_3 qx bw w0 w1 w2 w3 qm bg bk bc bx bi bf := LI.fr hLG hI fσ_3 (by decide)
  refine lv_pop hx hb dL_law_374 rfl ?_
  refine lv_aload_n hx hb dL_law_375 rfl (lv_at hl 1 rfl) ?_
  refine lv_aload_n hx hb dL_law_376 rfl (lv_at hl 3 rfl) ?_
  refine lv_iload_n hx hb dL_law_377 rfl (lv_at hl 0 rfl) ?_
  refine lv_iconst (v := 1) hx hb dL_law_378 (by decide) ?_
  refine lv_iadd hx hb dL_law_379 ?_
  refine lv_topi (fun x_7 ex_7 => ?_)
  have vx_7 := b_add (rfl : i.toInt = _) (by decide : (1 : Int32).toInt = 1) ex_7 (by omega) (by omega)
  refine va_sld hx hb hX hbl hbA hS (i_in (by omega) (by omega)) dL_law_380 ?_
  refine tp_i (w := xs (i.toInt.toNat + 1)) (by rw [show x_7.toNatClampNeg = i.toInt.toNat + 1 from (by have hn : x_7.toNatClampNeg = x_7.toInt.toNat := rfl; omega)]) ?_
  refine lv_aload_n hx hb dL_law_381 rfl (lv_at hl 3 rfl) ?_
  refine lv_iload_n hx hb dL_law_382 rfl (lv_at hl 0 rfl) ?_
  refine lv_iconst (v := 2) hx hb dL_law_383 (by decide) ?_
  refine lv_iadd hx hb dL_law_384 ?_
  refine lv_topi (fun x_8 ex_8 => ?_)
  have vx_8 := b_add (rfl : i.toInt = _) (by decide : (2 : Int32).toInt = 2) ex_8 (by omega) (by omega)
  refine va_sld hx hb hX hbl hbA hS (i_in (by omega) (by omega)) dL_law_385 ?_
  refine tp_i (w := xs (i.toInt.toNat + 2)) (by rw [show x_8.toNatClampNeg = i.toInt.toNat + 2 from (by have hn : x_8.toNatClampNeg = x_8.toInt.toNat := rfl; omega)]) ?_
  refine t_ci (va_runV (As := [.int (xs (i.toInt.toNat + 1)), .int (xs (i.toInt.toNat + 2))]) (rest := []) ⟨hx, hb, hml, hown, hts⟩ (cy_X12_bend l D cA L T r hG hLA.1 σ_3 ρ_4 hB.2.1 _ qm mqm tqm (xs (i.toInt.toNat + 1)) (xs (i.toInt.toNat + 2))) (cV hts mv_X12_bend mw_7_85 rfl rfl ⟨Nat.le_of_ble_eq_true rfl, Nat.le_of_ble_eq_true rfl⟩) (pV hB.1 hK hN mqm tqm (show shp cA 12 _ _ _ = .inr (12, Fs12 _ _ _) from rfl) rfl) rfl rfl hl.1 rfl (lv_room (Nat.le_of_ble_eq_true rfl)) dL_law_386 ⟨Nat.le_of_ble_eq_true rfl, Nat.le_of_ble_eq_true rfl⟩) hLA hA hB hS (by decide) (fun x_11 σ_9 ρ_10 H locs hB fσ_9 pσ_9 hS => ?_)
  have hI_12 : LI σ_9 qx bw w0 w1 w2 w3 qm bg bk bc bx bi bf := LI.fr hLG hI_6 fσ_9 (by decide)
  refine lv_pop hx hb dL_law_389 rfl ?_
  refine lv_goto (tgt := 1240) hx hb dL_law_390 (by decide) ?_
  exact kk _ _ _ _ hB hI_12 hS
theorem mw_4_88 : (.instanceMethod yX11_sort : Cond) ∈ wsA := wsA_t (List.mem_append_right _ (List.mem_append_right _ (List.mem_append_right _ (List.mem_append_left _ (List.mem_of_getElem? (l := tables_1_4) (i := 88) rfl))))) rfl
theorem mw_4_89 : (.selects RX11 yX11_sort yX11_sort : Cond) ∈ wsA := wsA_t (List.mem_append_right _ (List.mem_append_right _ (List.mem_append_right _ (List.mem_append_left _ (List.mem_of_getElem? (l := tables_1_4) (i := 89) rfl))))) rfl
theorem mw_4_90 : (.code yX11_sort cX11_sort 4 (some .int) : Cond) ∈ wsA := wsA_t (List.mem_append_right _ (List.mem_append_right _ (List.mem_append_right _ (List.mem_append_left _ (List.mem_of_getElem? (l := tables_1_4) (i := 90) rfl))))) rfl
theorem mw_4_87 : (.methodLink RL 45 yX11_sort : Cond) ∈ wsA := wsA_t (List.mem_append_right _ (List.mem_append_right _ (List.mem_append_right _ (List.mem_append_left _ (List.mem_of_getElem? (l := tables_1_4) (i := 87) rfl))))) rfl
theorem mw_7_107 : (.instanceMethod yX12_sort : Cond) ∈ wsA := wsA_t (List.mem_append_right _ (List.mem_append_right _ (List.mem_append_right _ (List.mem_append_right _ (List.mem_append_right _ (List.mem_append_right _ (List.mem_append_left _ (List.mem_of_getElem? (l := tables_1_7) (i := 107) rfl)))))))) rfl
theorem mw_7_108 : (.selects RX12 yX12_sort yX12_sort : Cond) ∈ wsA := wsA_t (List.mem_append_right _ (List.mem_append_right _ (List.mem_append_right _ (List.mem_append_right _ (List.mem_append_right _ (List.mem_append_right _ (List.mem_append_left _ (List.mem_of_getElem? (l := tables_1_7) (i := 108) rfl)))))))) rfl
theorem mw_7_109 : (.code yX12_sort cX12_sort 3 (some .int) : Cond) ∈ wsA := wsA_t (List.mem_append_right _ (List.mem_append_right _ (List.mem_append_right _ (List.mem_append_right _ (List.mem_append_right _ (List.mem_append_right _ (List.mem_append_left _ (List.mem_of_getElem? (l := tables_1_7) (i := 109) rfl)))))))) rfl
theorem mw_7_106 : (.methodLink RL 48 yX12_sort : Cond) ∈ wsA := wsA_t (List.mem_append_right _ (List.mem_append_right _ (List.mem_append_right _ (List.mem_append_right _ (List.mem_append_right _ (List.mem_append_right _ (List.mem_append_left _ (List.mem_of_getElem? (l := tables_1_7) (i := 106) rfl)))))))) rfl
theorem dL_law_393 : decode cL_law 393 = .ok (.aload_n 1, 1) := by decide +kernel
theorem dL_law_394 : decode cL_law 394 = .ok (.aload_n 0, 1) := by decide +kernel
theorem dL_law_395 : decode cL_law 395 = .ok (.iload_n 3, 1) := by decide +kernel
theorem dL_law_396 : decode cL_law 396 = .ok (.iconst 1, 1) := by decide +kernel
theorem dL_law_397 : decode cL_law 397 = .ok (.iadd, 1) := by decide +kernel
theorem dL_law_398 : decode cL_law 398 = .ok (.iaload, 1) := by decide +kernel
theorem dL_law_399 : decode cL_law 399 = .ok (.aload_n 0, 1) := by decide +kernel
theorem dL_law_400 : decode cL_law 400 = .ok (.iload_n 3, 1) := by decide +kernel
theorem dL_law_401 : decode cL_law 401 = .ok (.iconst 2, 1) := by decide +kernel
theorem dL_law_402 : decode cL_law 402 = .ok (.iadd, 1) := by decide +kernel
theorem dL_law_403 : decode cL_law 403 = .ok (.iaload, 1) := by decide +kernel
theorem dL_law_404 : decode cL_law 404 = .ok (.invokevirtual 45, 3) := by decide +kernel
theorem dL_law_407 : decode cL_law 407 = .ok (.pop, 1) := by decide +kernel
theorem dL_law_408 : decode cL_law 408 = .ok (.aload_n 2, 1) := by decide +kernel
theorem dL_law_409 : decode cL_law 409 = .ok (.aload_n 0, 1) := by decide +kernel
theorem dL_law_410 : decode cL_law 410 = .ok (.iload_n 3, 1) := by decide +kernel
theorem dL_law_411 : decode cL_law 411 = .ok (.iconst 1, 1) := by decide +kernel
theorem dL_law_412 : decode cL_law 412 = .ok (.iadd, 1) := by decide +kernel
theorem dL_law_413 : decode cL_law 413 = .ok (.iaload, 1) := by decide +kernel
theorem dL_law_414 : decode cL_law 414 = .ok (.aload_n 0, 1) := by decide +kernel
theorem dL_law_415 : decode cL_law 415 = .ok (.iload_n 3, 1) := by decide +kernel
theorem dL_law_416 : decode cL_law 416 = .ok (.iconst 2, 1) := by decide +kernel
theorem dL_law_417 : decode cL_law 417 = .ok (.iadd, 1) := by decide +kernel
theorem dL_law_418 : decode cL_law 418 = .ok (.iaload, 1) := by decide +kernel
theorem dL_law_419 : decode cL_law 419 = .ok (.invokevirtual 48, 3) := by decide +kernel
theorem dL_law_422 : decode cL_law 422 = .ok (.pop, 1) := by decide +kernel
theorem dL_law_423 : decode cL_law 423 = .ok (.goto 817, 3) := by decide +kernel
theorem mv_X11_sort : MV RX11 yX11_sort cX11_sort 4 (some .int) 2 := ⟨mw_4_88, mw_4_89, mw_1_1, mw_4_90, ⟨rfl, by decide, by decide, by decide +kernel⟩⟩
theorem mv_X12_sort : MV RX12 yX12_sort cX12_sort 3 (some .int) 2 := ⟨mw_7_107, mw_7_108, mw_1_13, mw_7_109, ⟨rfl, by decide, by decide, by decide +kernel⟩⟩
set_option maxHeartbeats 4000000 in
set_option maxRecDepth 100000 in
theorem law_c7 {p : Program} {e : Env} {s : State} {m : MethodId} {below : List Frame} {meth : Method} {c : Code} (l : Launch) {b Ls : Nat} {xs : Nat → Int32} (hLs : Ls ≤ 3072) (hx : p.tables.exec = Jvm.exec) (hb : c.code = code) (hr : meth.sig.returnType = ret) (hml : c.maxLocals = 4) (hown : s.vm.findClass RL = some m.cls) (hts : ∀ w ∈ wsA, w.before #[Value.ref b] s = true) (hX : va_X b Ls xs s s.heap) (hbl : b < s.heap.size) (hlocks : meth.locks = false) (D : va_G) (cA : Nat → ClassId) (hK : va_K D vwCl (tyA cA) s) (hN : NW s) (adK adV : Nat → Nat) (L : List Nat) (T : Nat → Nat) (r : Rg) (hLA : LA (fun q : Nat => s.heap.size ≤ q) L) (hG : GR L T r) (hV : SWL adK adV L s) (qx : Nat) (mqx : qx ∈ L) (tqx : T qx = 11) (bw : Nat) (mbw : bw ∈ L) (tbw : T bw = 10) (w0 : Nat) (mw0 : w0 ∈ L) (tw0 : T w0 = 13) (w1 : Nat) (mw1 : w1 ∈ L) (tw1 : T w1 = 14) (w2 : Nat) (mw2 : w2 ∈ L) (tw2 : T w2 = 15) (w3 : Nat) (mw3 : w3 ∈ L) (tw3 : T w3 = 16) (qm : Nat) (mqm : qm ∈ L) (tqm : T qm = 12) (bg : Nat) (mbg : bg ∈ L) (tbg : T bg = 62) (bk : Nat) (mbk : bk ∈ L) (tbk : T bk = 64) (bc : Nat) (mbc : bc ∈ L) (tbc : T bc = 65) (bx : Nat) (mbx : bx ∈ L) (tbx : T bx = 84) (bi : Nat) (mbi : bi ∈ L) (tbi : T bi = 85) (bf : Nat) (mbf : bf ∈ L) (tbf : T bf = 83) (ba : Nat) (mba : ba ∈ L) (tba : T ba = 60) (hbw : r qx 3 = some bw) (hba : r qx 4 = some ba) (hbg : r qm 3 = some bg) (hbk : r qm 5 = some bk) (hbc : r qm 6 = some bc) (hbx : r qm 42 = some bx) (hbi : r qm 43 = some bi) (hbf : r qm 41 = some bf) (hw0 : r ba 0 = some w0) (hw1 : r ba 1 = some w1) (hw2 : r ba 2 = some w2) (hw3 : r ba 3 = some w3) (hLG : LG T qx bw w0 w1 w2 w3 qm bg bk bc bx bi bf) (i : Int32) (li : 0 ≤ i.toInt) (ui : i.toInt ≤ 3066) (vi : i.toInt + 6 ≤ Ls) (σ0 σ : Sg) (ρ : Lg) (H : Heap) (hB : TS D cA L T r ry msL σ0 σ ρ H) (hI : LI σ qx bw w0 w1 w2 w3 qm bg bk bc bx bi bf) (locs : List Loc) (hS : va_S (fun q : Nat => s.heap.size ≤ q) s.heap H locs) (ls : Array Slot) (hl : lv_has ls 4 [(3, .int i), (2, .ref qm), (1, .ref qx), (0, .ref b)]) (kk : ∀ (σ2 : Sg) (ρ2 : Lg) (H : Heap) (locs : List Loc), TS D cA L T r ry msL σ0 σ2 ρ2 H → LI σ2 qx bw w0 w1 w2 w3 qm bg bk bc bx bi bf → va_S (fun q : Nat => s.heap.size ≤ q) s.heap H locs → W p l e room_1 s m #[Value.ref b] below meth c H locs 378 16064 (lw_Z below #[Value.ref b] s) (F0 m 1240 ls [])) : W p l e room_1 s m #[Value.ref b] below meth c H locs 378 16064 (lw_Z below #[Value.ref b] s) (F0 m 393 ls []) := by
  have hA : ∀ q : Nat, s.heap.size ≤ q → (fun q : Nat => s.heap.size ≤ q) q := fun _ h => h
  have hbA : ¬ (fun q : Nat => s.heap.size ≤ q) b := Nat.not_le.mpr hbl
  refine lv_aload_n hx hb dL_law_393 rfl (lv_at hl 2 rfl) ?_
  refine lv_aload_n hx hb dL_law_394 rfl (lv_at hl 3 rfl) ?_
  refine lv_iload_n hx hb dL_law_395 rfl (lv_at hl 0 rfl) ?_
  refine lv_iconst (v := 1) hx hb dL_law_396 (by decide) ?_
  refine lv_iadd hx hb dL_law_397 ?_
  refine lv_topi (fun x_1 ex_1 => ?_)
  have vx_1 := b_add (rfl : i.toInt = _) (by decide : (1 : Int32).toInt = 1) ex_1 (by omega) (by omega)
  refine va_sld hx hb hX hbl hbA hS (i_in (by omega) (by omega)) dL_law_398 ?_
  refine tp_i (w := xs (i.toInt.toNat + 1)) (by rw [show x_1.toNatClampNeg = i.toInt.toNat + 1 from (by have hn : x_1.toNatClampNeg = x_1.toInt.toNat := rfl; omega)]) ?_
  refine lv_aload_n hx hb dL_law_399 rfl (lv_at hl 3 rfl) ?_
  refine lv_iload_n hx hb dL_law_400 rfl (lv_at hl 0 rfl) ?_
  refine lv_iconst (v := 2) hx hb dL_law_401 (by decide) ?_
  refine lv_iadd hx hb dL_law_402 ?_
  refine lv_topi (fun x_2 ex_2 => ?_)
  have vx_2 := b_add (rfl : i.toInt = _) (by decide : (2 : Int32).toInt = 2) ex_2 (by omega) (by omega)
  refine va_sld hx hb hX hbl hbA hS (i_in (by omega) (by omega)) dL_law_403 ?_
  refine tp_i (w := xs (i.toInt.toNat + 2)) (by rw [show x_2.toNatClampNeg = i.toInt.toNat + 2 from (by have hn : x_2.toNatClampNeg = x_2.toInt.toNat := rfl; omega)]) ?_
  refine t_ci (va_runV (As := [.int (xs (i.toInt.toNat + 1)), .int (xs (i.toInt.toNat + 2))]) (rest := []) ⟨hx, hb, hml, hown, hts⟩ (cy_X11_sort l D cA L T r hG hLA.1 σ ρ hB.2.1 _ qx mqx tqx (xs (i.toInt.toNat + 1)) (xs (i.toInt.toNat + 2))) (cV hts mv_X11_sort mw_4_87 rfl rfl ⟨Nat.le_of_ble_eq_true rfl, Nat.le_of_ble_eq_true rfl⟩) (pV hB.1 hK hN mqx tqx (show shp cA 11 _ _ _ = .inr (11, Fs11 _ _ _) from rfl) rfl) rfl rfl hl.1 rfl (lv_room (Nat.le_of_ble_eq_true rfl)) dL_law_404 ⟨Nat.le_of_ble_eq_true rfl, Nat.le_of_ble_eq_true rfl⟩) hLA hA hB hS (by decide) (fun x_5 σ_3 ρ_4 H locs hB fσ_3 pσ_3 hS => ?_)
  have hI_6 : LI σ_3 qx bw w0 w1 w2 w3 qm bg bk bc bx bi bf := LI.fr hLG hI fσ_3 (by decide)
  refine lv_pop hx hb dL_law_407 rfl ?_
  refine lv_aload_n hx hb dL_law_408 rfl (lv_at hl 1 rfl) ?_
  refine lv_aload_n hx hb dL_law_409 rfl (lv_at hl 3 rfl) ?_
  refine lv_iload_n hx hb dL_law_410 rfl (lv_at hl 0 rfl) ?_
  refine lv_iconst (v := 1) hx hb dL_law_411 (by decide) ?_
  refine lv_iadd hx hb dL_law_412 ?_
  refine lv_topi (fun x_7 ex_7 => ?_)
  have vx_7 := b_add (rfl : i.toInt = _) (by decide : (1 : Int32).toInt = 1) ex_7 (by omega) (by omega)
  refine va_sld hx hb hX hbl hbA hS (i_in (by omega) (by omega)) dL_law_413 ?_
  refine tp_i (w := xs (i.toInt.toNat + 1)) (by rw [show x_7.toNatClampNeg = i.toInt.toNat + 1 from (by have hn : x_7.toNatClampNeg = x_7.toInt.toNat := rfl; omega)]) ?_
  refine lv_aload_n hx hb dL_law_414 rfl (lv_at hl 3 rfl) ?_
  refine lv_iload_n hx hb dL_law_415 rfl (lv_at hl 0 rfl) ?_
  refine lv_iconst (v := 2) hx hb dL_law_416 (by decide) ?_
  refine lv_iadd hx hb dL_law_417 ?_
  refine lv_topi (fun x_8 ex_8 => ?_)
  have vx_8 := b_add (rfl : i.toInt = _) (by decide : (2 : Int32).toInt = 2) ex_8 (by omega) (by omega)
  refine va_sld hx hb hX hbl hbA hS (i_in (by omega) (by omega)) dL_law_418 ?_
  refine tp_i (w := xs (i.toInt.toNat + 2)) (by rw [show x_8.toNatClampNeg = i.toInt.toNat + 2 from (by have hn : x_8.toNatClampNeg = x_8.toInt.toNat := rfl; omega)]) ?_
  refine t_ci (va_runV (As := [.int (xs (i.toInt.toNat + 1)), .int (xs (i.toInt.toNat + 2))]) (rest := []) ⟨hx, hb, hml, hown, hts⟩ (cy_X12_sort l D cA L T r hG hLA.1 σ_3 ρ_4 hB.2.1 _ qm mqm tqm (xs (i.toInt.toNat + 1)) (xs (i.toInt.toNat + 2))) (cV hts mv_X12_sort mw_7_106 rfl rfl ⟨Nat.le_of_ble_eq_true rfl, Nat.le_of_ble_eq_true rfl⟩) (pV hB.1 hK hN mqm tqm (show shp cA 12 _ _ _ = .inr (12, Fs12 _ _ _) from rfl) rfl) rfl rfl hl.1 rfl (lv_room (Nat.le_of_ble_eq_true rfl)) dL_law_419 ⟨Nat.le_of_ble_eq_true rfl, Nat.le_of_ble_eq_true rfl⟩) hLA hA hB hS (by decide) (fun x_11 σ_9 ρ_10 H locs hB fσ_9 pσ_9 hS => ?_)
  have hI_12 : LI σ_9 qx bw w0 w1 w2 w3 qm bg bk bc bx bi bf := LI.fr hLG hI_6 fσ_9 (by decide)
  refine lv_pop hx hb dL_law_422 rfl ?_
  refine lv_goto (tgt := 1240) hx hb dL_law_423 (by decide) ?_
  exact kk _ _ _ _ hB hI_12 hS
theorem mw_4_96 : (.instanceMethod yX11_night : Cond) ∈ wsA := wsA_t (List.mem_append_right _ (List.mem_append_right _ (List.mem_append_right _ (List.mem_append_left _ (List.mem_of_getElem? (l := tables_1_4) (i := 96) rfl))))) rfl
theorem mw_4_97 : (.selects RX11 yX11_night yX11_night : Cond) ∈ wsA := wsA_t (List.mem_append_right _ (List.mem_append_right _ (List.mem_append_right _ (List.mem_append_left _ (List.mem_of_getElem? (l := tables_1_4) (i := 97) rfl))))) rfl
theorem mw_4_98 : (.code yX11_night cX11_night 3 (some .int) : Cond) ∈ wsA := wsA_t (List.mem_append_right _ (List.mem_append_right _ (List.mem_append_right _ (List.mem_append_left _ (List.mem_of_getElem? (l := tables_1_4) (i := 98) rfl))))) rfl
theorem mw_4_95 : (.methodLink RL 49 yX11_night : Cond) ∈ wsA := wsA_t (List.mem_append_right _ (List.mem_append_right _ (List.mem_append_right _ (List.mem_append_left _ (List.mem_of_getElem? (l := tables_1_4) (i := 95) rfl))))) rfl
theorem mw_7_120 : (.instanceMethod yX12_night : Cond) ∈ wsA := wsA_t (List.mem_append_right _ (List.mem_append_right _ (List.mem_append_right _ (List.mem_append_right _ (List.mem_append_right _ (List.mem_append_right _ (List.mem_append_left _ (List.mem_of_getElem? (l := tables_1_7) (i := 120) rfl)))))))) rfl
theorem mw_7_121 : (.selects RX12 yX12_night yX12_night : Cond) ∈ wsA := wsA_t (List.mem_append_right _ (List.mem_append_right _ (List.mem_append_right _ (List.mem_append_right _ (List.mem_append_right _ (List.mem_append_right _ (List.mem_append_left _ (List.mem_of_getElem? (l := tables_1_7) (i := 121) rfl)))))))) rfl
theorem mw_7_122 : (.code yX12_night cX12_night 1 (some .int) : Cond) ∈ wsA := wsA_t (List.mem_append_right _ (List.mem_append_right _ (List.mem_append_right _ (List.mem_append_right _ (List.mem_append_right _ (List.mem_append_right _ (List.mem_append_left _ (List.mem_of_getElem? (l := tables_1_7) (i := 122) rfl)))))))) rfl
theorem mw_7_119 : (.methodLink RL 52 yX12_night : Cond) ∈ wsA := wsA_t (List.mem_append_right _ (List.mem_append_right _ (List.mem_append_right _ (List.mem_append_right _ (List.mem_append_right _ (List.mem_append_right _ (List.mem_append_left _ (List.mem_of_getElem? (l := tables_1_7) (i := 119) rfl)))))))) rfl
theorem dL_law_426 : decode cL_law 426 = .ok (.aload_n 1, 1) := by decide +kernel
theorem dL_law_427 : decode cL_law 427 = .ok (.invokevirtual 49, 3) := by decide +kernel
theorem dL_law_430 : decode cL_law 430 = .ok (.pop, 1) := by decide +kernel
theorem dL_law_431 : decode cL_law 431 = .ok (.aload_n 2, 1) := by decide +kernel
theorem dL_law_432 : decode cL_law 432 = .ok (.invokevirtual 52, 3) := by decide +kernel
theorem dL_law_435 : decode cL_law 435 = .ok (.pop, 1) := by decide +kernel
theorem dL_law_436 : decode cL_law 436 = .ok (.goto 804, 3) := by decide +kernel
theorem mv_X11_night : MV RX11 yX11_night cX11_night 3 (some .int) 0 := ⟨mw_4_96, mw_4_97, mw_1_1, mw_4_98, ⟨rfl, by decide, by decide, by decide +kernel⟩⟩
theorem mv_X12_night : MV RX12 yX12_night cX12_night 1 (some .int) 0 := ⟨mw_7_120, mw_7_121, mw_1_13, mw_7_122, ⟨rfl, by decide, by decide, by decide +kernel⟩⟩
set_option maxHeartbeats 4000000 in
set_option maxRecDepth 100000 in
theorem law_c8 {p : Program} {e : Env} {s : State} {m : MethodId} {below : List Frame} {meth : Method} {c : Code} (l : Launch) {b Ls : Nat} {xs : Nat → Int32} (hLs : Ls ≤ 3072) (hx : p.tables.exec = Jvm.exec) (hb : c.code = code) (hr : meth.sig.returnType = ret) (hml : c.maxLocals = 4) (hown : s.vm.findClass RL = some m.cls) (hts : ∀ w ∈ wsA, w.before #[Value.ref b] s = true) (hX : va_X b Ls xs s s.heap) (hbl : b < s.heap.size) (hlocks : meth.locks = false) (D : va_G) (cA : Nat → ClassId) (hK : va_K D vwCl (tyA cA) s) (hN : NW s) (adK adV : Nat → Nat) (L : List Nat) (T : Nat → Nat) (r : Rg) (hLA : LA (fun q : Nat => s.heap.size ≤ q) L) (hG : GR L T r) (hV : SWL adK adV L s) (qx : Nat) (mqx : qx ∈ L) (tqx : T qx = 11) (bw : Nat) (mbw : bw ∈ L) (tbw : T bw = 10) (w0 : Nat) (mw0 : w0 ∈ L) (tw0 : T w0 = 13) (w1 : Nat) (mw1 : w1 ∈ L) (tw1 : T w1 = 14) (w2 : Nat) (mw2 : w2 ∈ L) (tw2 : T w2 = 15) (w3 : Nat) (mw3 : w3 ∈ L) (tw3 : T w3 = 16) (qm : Nat) (mqm : qm ∈ L) (tqm : T qm = 12) (bg : Nat) (mbg : bg ∈ L) (tbg : T bg = 62) (bk : Nat) (mbk : bk ∈ L) (tbk : T bk = 64) (bc : Nat) (mbc : bc ∈ L) (tbc : T bc = 65) (bx : Nat) (mbx : bx ∈ L) (tbx : T bx = 84) (bi : Nat) (mbi : bi ∈ L) (tbi : T bi = 85) (bf : Nat) (mbf : bf ∈ L) (tbf : T bf = 83) (ba : Nat) (mba : ba ∈ L) (tba : T ba = 60) (hbw : r qx 3 = some bw) (hba : r qx 4 = some ba) (hbg : r qm 3 = some bg) (hbk : r qm 5 = some bk) (hbc : r qm 6 = some bc) (hbx : r qm 42 = some bx) (hbi : r qm 43 = some bi) (hbf : r qm 41 = some bf) (hw0 : r ba 0 = some w0) (hw1 : r ba 1 = some w1) (hw2 : r ba 2 = some w2) (hw3 : r ba 3 = some w3) (hLG : LG T qx bw w0 w1 w2 w3 qm bg bk bc bx bi bf) (i : Int32) (li : 0 ≤ i.toInt) (ui : i.toInt ≤ 3066) (vi : i.toInt + 6 ≤ Ls) (σ0 σ : Sg) (ρ : Lg) (H : Heap) (hB : TS D cA L T r ry msL σ0 σ ρ H) (hI : LI σ qx bw w0 w1 w2 w3 qm bg bk bc bx bi bf) (locs : List Loc) (hS : va_S (fun q : Nat => s.heap.size ≤ q) s.heap H locs) (ls : Array Slot) (hl : lv_has ls 4 [(3, .int i), (2, .ref qm), (1, .ref qx), (0, .ref b)]) (kk : ∀ (σ2 : Sg) (ρ2 : Lg) (H : Heap) (locs : List Loc), TS D cA L T r ry msL σ0 σ2 ρ2 H → LI σ2 qx bw w0 w1 w2 w3 qm bg bk bc bx bi bf → va_S (fun q : Nat => s.heap.size ≤ q) s.heap H locs → W p l e room_1 s m #[Value.ref b] below meth c H locs 378 16064 (lw_Z below #[Value.ref b] s) (F0 m 1240 ls [])) : W p l e room_1 s m #[Value.ref b] below meth c H locs 378 16064 (lw_Z below #[Value.ref b] s) (F0 m 426 ls []) := by
  have hA : ∀ q : Nat, s.heap.size ≤ q → (fun q : Nat => s.heap.size ≤ q) q := fun _ h => h
  have hbA : ¬ (fun q : Nat => s.heap.size ≤ q) b := Nat.not_le.mpr hbl
  refine lv_aload_n hx hb dL_law_426 rfl (lv_at hl 2 rfl) ?_
  refine t_ci (va_runV (As := []) (rest := []) ⟨hx, hb, hml, hown, hts⟩ (cy_X11_night l D cA L T r hG hLA.1 σ ρ hB.2.1 _ qx mqx tqx) (cV hts mv_X11_night mw_4_95 rfl rfl ⟨Nat.le_of_ble_eq_true rfl, Nat.le_of_ble_eq_true rfl⟩) (pV hB.1 hK hN mqx tqx (show shp cA 11 _ _ _ = .inr (11, Fs11 _ _ _) from rfl) rfl) rfl rfl hl.1 rfl (lv_room (Nat.le_of_ble_eq_true rfl)) dL_law_427 ⟨Nat.le_of_ble_eq_true rfl, Nat.le_of_ble_eq_true rfl⟩) hLA hA hB hS (by decide) (fun x_3 σ_1 ρ_2 H locs hB fσ_1 pσ_1 hS => ?_)
  have hI_4 : LI σ_1 qx bw w0 w1 w2 w3 qm bg bk bc bx bi bf := LI.fr hLG hI fσ_1 (by decide)
  refine lv_pop hx hb dL_law_430 rfl ?_
  refine lv_aload_n hx hb dL_law_431 rfl (lv_at hl 1 rfl) ?_
  refine t_ci (va_runV (As := []) (rest := []) ⟨hx, hb, hml, hown, hts⟩ (cy_X12_night l D cA L T r hG hLA.1 σ_1 ρ_2 hB.2.1 _ qm mqm tqm bg hbg mbg tbg bk hbk mbk tbk bc hbc mbc tbc hI_4.1 hI_4.2.1) (cV hts mv_X12_night mw_7_119 rfl rfl ⟨Nat.le_of_ble_eq_true rfl, Nat.le_of_ble_eq_true rfl⟩) (pV hB.1 hK hN mqm tqm (show shp cA 12 _ _ _ = .inr (12, Fs12 _ _ _) from rfl) rfl) rfl rfl hl.1 rfl (lv_room (Nat.le_of_ble_eq_true rfl)) dL_law_432 ⟨Nat.le_of_ble_eq_true rfl, Nat.le_of_ble_eq_true rfl⟩) hLA hA hB hS (by decide) (fun x_7 σ_5 ρ_6 H locs hB fσ_5 pσ_5 hS => ?_)
  have hI_8 : LI σ_5 qx bw w0 w1 w2 w3 qm bg bk bc bx bi bf := LI.fr hLG hI_4 fσ_5 (by decide)
  refine lv_pop hx hb dL_law_435 rfl ?_
  refine lv_goto (tgt := 1240) hx hb dL_law_436 (by decide) ?_
  exact kk _ _ _ _ hB hI_8 hS
theorem mw_4_136 : (.instanceMethod yX11_climb : Cond) ∈ wsA := wsA_t (List.mem_append_right _ (List.mem_append_right _ (List.mem_append_right _ (List.mem_append_left _ (List.mem_of_getElem? (l := tables_1_4) (i := 136) rfl))))) rfl
theorem mw_4_137 : (.selects RX11 yX11_climb yX11_climb : Cond) ∈ wsA := wsA_t (List.mem_append_right _ (List.mem_append_right _ (List.mem_append_right _ (List.mem_append_left _ (List.mem_of_getElem? (l := tables_1_4) (i := 137) rfl))))) rfl
theorem mw_4_138 : (.code yX11_climb cX11_climb 3 (some .int) : Cond) ∈ wsA := wsA_t (List.mem_append_right _ (List.mem_append_right _ (List.mem_append_right _ (List.mem_append_left _ (List.mem_of_getElem? (l := tables_1_4) (i := 138) rfl))))) rfl
theorem mw_4_135 : (.methodLink RL 53 yX11_climb : Cond) ∈ wsA := wsA_t (List.mem_append_right _ (List.mem_append_right _ (List.mem_append_right _ (List.mem_append_left _ (List.mem_of_getElem? (l := tables_1_4) (i := 135) rfl))))) rfl
theorem mw_7_163 : (.instanceMethod yX12_climb : Cond) ∈ wsA := wsA_t (List.mem_append_right _ (List.mem_append_right _ (List.mem_append_right _ (List.mem_append_right _ (List.mem_append_right _ (List.mem_append_right _ (List.mem_append_left _ (List.mem_of_getElem? (l := tables_1_7) (i := 163) rfl)))))))) rfl
theorem mw_7_164 : (.selects RX12 yX12_climb yX12_climb : Cond) ∈ wsA := wsA_t (List.mem_append_right _ (List.mem_append_right _ (List.mem_append_right _ (List.mem_append_right _ (List.mem_append_right _ (List.mem_append_right _ (List.mem_append_left _ (List.mem_of_getElem? (l := tables_1_7) (i := 164) rfl)))))))) rfl
theorem mw_7_165 : (.code yX12_climb cX12_climb 2 (some .int) : Cond) ∈ wsA := wsA_t (List.mem_append_right _ (List.mem_append_right _ (List.mem_append_right _ (List.mem_append_right _ (List.mem_append_right _ (List.mem_append_right _ (List.mem_append_left _ (List.mem_of_getElem? (l := tables_1_7) (i := 165) rfl)))))))) rfl
theorem mw_7_162 : (.methodLink RL 56 yX12_climb : Cond) ∈ wsA := wsA_t (List.mem_append_right _ (List.mem_append_right _ (List.mem_append_right _ (List.mem_append_right _ (List.mem_append_right _ (List.mem_append_right _ (List.mem_append_left _ (List.mem_of_getElem? (l := tables_1_7) (i := 162) rfl)))))))) rfl
theorem dL_law_439 : decode cL_law 439 = .ok (.aload_n 1, 1) := by decide +kernel
theorem dL_law_440 : decode cL_law 440 = .ok (.aload_n 0, 1) := by decide +kernel
theorem dL_law_441 : decode cL_law 441 = .ok (.iload_n 3, 1) := by decide +kernel
theorem dL_law_442 : decode cL_law 442 = .ok (.iconst 1, 1) := by decide +kernel
theorem dL_law_443 : decode cL_law 443 = .ok (.iadd, 1) := by decide +kernel
theorem dL_law_444 : decode cL_law 444 = .ok (.iaload, 1) := by decide +kernel
theorem dL_law_445 : decode cL_law 445 = .ok (.invokevirtual 53, 3) := by decide +kernel
theorem dL_law_448 : decode cL_law 448 = .ok (.pop, 1) := by decide +kernel
theorem dL_law_449 : decode cL_law 449 = .ok (.aload_n 2, 1) := by decide +kernel
theorem dL_law_450 : decode cL_law 450 = .ok (.aload_n 0, 1) := by decide +kernel
theorem dL_law_451 : decode cL_law 451 = .ok (.iload_n 3, 1) := by decide +kernel
theorem dL_law_452 : decode cL_law 452 = .ok (.iconst 1, 1) := by decide +kernel
theorem dL_law_453 : decode cL_law 453 = .ok (.iadd, 1) := by decide +kernel
theorem dL_law_454 : decode cL_law 454 = .ok (.iaload, 1) := by decide +kernel
theorem dL_law_455 : decode cL_law 455 = .ok (.invokevirtual 56, 3) := by decide +kernel
theorem dL_law_458 : decode cL_law 458 = .ok (.pop, 1) := by decide +kernel
theorem dL_law_459 : decode cL_law 459 = .ok (.goto 781, 3) := by decide +kernel
theorem mv_X11_climb : MV RX11 yX11_climb cX11_climb 3 (some .int) 1 := ⟨mw_4_136, mw_4_137, mw_1_1, mw_4_138, ⟨rfl, by decide, by decide, by decide +kernel⟩⟩
theorem mv_X12_climb : MV RX12 yX12_climb cX12_climb 2 (some .int) 1 := ⟨mw_7_163, mw_7_164, mw_1_13, mw_7_165, ⟨rfl, by decide, by decide, by decide +kernel⟩⟩
set_option maxHeartbeats 4000000 in
set_option maxRecDepth 100000 in
theorem law_c9 {p : Program} {e : Env} {s : State} {m : MethodId} {below : List Frame} {meth : Method} {c : Code} (l : Launch) {b Ls : Nat} {xs : Nat → Int32} (hLs : Ls ≤ 3072) (hx : p.tables.exec = Jvm.exec) (hb : c.code = code) (hr : meth.sig.returnType = ret) (hml : c.maxLocals = 4) (hown : s.vm.findClass RL = some m.cls) (hts : ∀ w ∈ wsA, w.before #[Value.ref b] s = true) (hX : va_X b Ls xs s s.heap) (hbl : b < s.heap.size) (hlocks : meth.locks = false) (D : va_G) (cA : Nat → ClassId) (hK : va_K D vwCl (tyA cA) s) (hN : NW s) (adK adV : Nat → Nat) (L : List Nat) (T : Nat → Nat) (r : Rg) (hLA : LA (fun q : Nat => s.heap.size ≤ q) L) (hG : GR L T r) (hV : SWL adK adV L s) (qx : Nat) (mqx : qx ∈ L) (tqx : T qx = 11) (bw : Nat) (mbw : bw ∈ L) (tbw : T bw = 10) (w0 : Nat) (mw0 : w0 ∈ L) (tw0 : T w0 = 13) (w1 : Nat) (mw1 : w1 ∈ L) (tw1 : T w1 = 14) (w2 : Nat) (mw2 : w2 ∈ L) (tw2 : T w2 = 15) (w3 : Nat) (mw3 : w3 ∈ L) (tw3 : T w3 = 16) (qm : Nat) (mqm : qm ∈ L) (tqm : T qm = 12) (bg : Nat) (mbg : bg ∈ L) (tbg : T bg = 62) (bk : Nat) (mbk : bk ∈ L) (tbk : T bk = 64) (bc : Nat) (mbc : bc ∈ L) (tbc : T bc = 65) (bx : Nat) (mbx : bx ∈ L) (tbx : T bx = 84) (bi : Nat) (mbi : bi ∈ L) (tbi : T bi = 85) (bf : Nat) (mbf : bf ∈ L) (tbf : T bf = 83) (ba : Nat) (mba : ba ∈ L) (tba : T ba = 60) (hbw : r qx 3 = some bw) (hba : r qx 4 = some ba) (hbg : r qm 3 = some bg) (hbk : r qm 5 = some bk) (hbc : r qm 6 = some bc) (hbx : r qm 42 = some bx) (hbi : r qm 43 = some bi) (hbf : r qm 41 = some bf) (hw0 : r ba 0 = some w0) (hw1 : r ba 1 = some w1) (hw2 : r ba 2 = some w2) (hw3 : r ba 3 = some w3) (hLG : LG T qx bw w0 w1 w2 w3 qm bg bk bc bx bi bf) (i : Int32) (li : 0 ≤ i.toInt) (ui : i.toInt ≤ 3066) (vi : i.toInt + 6 ≤ Ls) (σ0 σ : Sg) (ρ : Lg) (H : Heap) (hB : TS D cA L T r ry msL σ0 σ ρ H) (hI : LI σ qx bw w0 w1 w2 w3 qm bg bk bc bx bi bf) (locs : List Loc) (hS : va_S (fun q : Nat => s.heap.size ≤ q) s.heap H locs) (ls : Array Slot) (hl : lv_has ls 4 [(3, .int i), (2, .ref qm), (1, .ref qx), (0, .ref b)]) (kk : ∀ (σ2 : Sg) (ρ2 : Lg) (H : Heap) (locs : List Loc), TS D cA L T r ry msL σ0 σ2 ρ2 H → LI σ2 qx bw w0 w1 w2 w3 qm bg bk bc bx bi bf → va_S (fun q : Nat => s.heap.size ≤ q) s.heap H locs → W p l e room_1 s m #[Value.ref b] below meth c H locs 378 16064 (lw_Z below #[Value.ref b] s) (F0 m 1240 ls [])) : W p l e room_1 s m #[Value.ref b] below meth c H locs 378 16064 (lw_Z below #[Value.ref b] s) (F0 m 439 ls []) := by
  have hA : ∀ q : Nat, s.heap.size ≤ q → (fun q : Nat => s.heap.size ≤ q) q := fun _ h => h
  have hbA : ¬ (fun q : Nat => s.heap.size ≤ q) b := Nat.not_le.mpr hbl
  refine lv_aload_n hx hb dL_law_439 rfl (lv_at hl 2 rfl) ?_
  refine lv_aload_n hx hb dL_law_440 rfl (lv_at hl 3 rfl) ?_
  refine lv_iload_n hx hb dL_law_441 rfl (lv_at hl 0 rfl) ?_
  refine lv_iconst (v := 1) hx hb dL_law_442 (by decide) ?_
  refine lv_iadd hx hb dL_law_443 ?_
  refine lv_topi (fun x_1 ex_1 => ?_)
  have vx_1 := b_add (rfl : i.toInt = _) (by decide : (1 : Int32).toInt = 1) ex_1 (by omega) (by omega)
  refine va_sld hx hb hX hbl hbA hS (i_in (by omega) (by omega)) dL_law_444 ?_
  refine tp_i (w := xs (i.toInt.toNat + 1)) (by rw [show x_1.toNatClampNeg = i.toInt.toNat + 1 from (by have hn : x_1.toNatClampNeg = x_1.toInt.toNat := rfl; omega)]) ?_
  refine t_ci (va_runV (As := [.int (xs (i.toInt.toNat + 1))]) (rest := []) ⟨hx, hb, hml, hown, hts⟩ (cy_X11_climb l D cA L T r hG hLA.1 σ ρ hB.2.1 _ qx mqx tqx (xs (i.toInt.toNat + 1))) (cV hts mv_X11_climb mw_4_135 rfl rfl ⟨Nat.le_of_ble_eq_true rfl, Nat.le_of_ble_eq_true rfl⟩) (pV hB.1 hK hN mqx tqx (show shp cA 11 _ _ _ = .inr (11, Fs11 _ _ _) from rfl) rfl) rfl rfl hl.1 rfl (lv_room (Nat.le_of_ble_eq_true rfl)) dL_law_445 ⟨Nat.le_of_ble_eq_true rfl, Nat.le_of_ble_eq_true rfl⟩) hLA hA hB hS (by decide) (fun x_4 σ_2 ρ_3 H locs hB fσ_2 pσ_2 hS => ?_)
  have hI_5 : LI σ_2 qx bw w0 w1 w2 w3 qm bg bk bc bx bi bf := LI.fr hLG hI fσ_2 (by decide)
  refine lv_pop hx hb dL_law_448 rfl ?_
  refine lv_aload_n hx hb dL_law_449 rfl (lv_at hl 1 rfl) ?_
  refine lv_aload_n hx hb dL_law_450 rfl (lv_at hl 3 rfl) ?_
  refine lv_iload_n hx hb dL_law_451 rfl (lv_at hl 0 rfl) ?_
  refine lv_iconst (v := 1) hx hb dL_law_452 (by decide) ?_
  refine lv_iadd hx hb dL_law_453 ?_
  refine lv_topi (fun x_6 ex_6 => ?_)
  have vx_6 := b_add (rfl : i.toInt = _) (by decide : (1 : Int32).toInt = 1) ex_6 (by omega) (by omega)
  refine va_sld hx hb hX hbl hbA hS (i_in (by omega) (by omega)) dL_law_454 ?_
  refine tp_i (w := xs (i.toInt.toNat + 1)) (by rw [show x_6.toNatClampNeg = i.toInt.toNat + 1 from (by have hn : x_6.toNatClampNeg = x_6.toInt.toNat := rfl; omega)]) ?_
  refine t_ci (va_runV (As := [.int (xs (i.toInt.toNat + 1))]) (rest := []) ⟨hx, hb, hml, hown, hts⟩ (cy_X12_climb l D cA L T r hG hLA.1 σ_2 ρ_3 hB.2.1 _ qm mqm tqm (xs (i.toInt.toNat + 1))) (cV hts mv_X12_climb mw_7_162 rfl rfl ⟨Nat.le_of_ble_eq_true rfl, Nat.le_of_ble_eq_true rfl⟩) (pV hB.1 hK hN mqm tqm (show shp cA 12 _ _ _ = .inr (12, Fs12 _ _ _) from rfl) rfl) rfl rfl hl.1 rfl (lv_room (Nat.le_of_ble_eq_true rfl)) dL_law_455 ⟨Nat.le_of_ble_eq_true rfl, Nat.le_of_ble_eq_true rfl⟩) hLA hA hB hS (by decide) (fun x_9 σ_7 ρ_8 H locs hB fσ_7 pσ_7 hS => ?_)
  have hI_10 : LI σ_7 qx bw w0 w1 w2 w3 qm bg bk bc bx bi bf := LI.fr hLG hI_5 fσ_7 (by decide)
  refine lv_pop hx hb dL_law_458 rfl ?_
  refine lv_goto (tgt := 1240) hx hb dL_law_459 (by decide) ?_
  exact kk _ _ _ _ hB hI_10 hS
theorem mw_4_150 : (.instanceMethod yX11_down : Cond) ∈ wsA := wsA_t (List.mem_append_right _ (List.mem_append_right _ (List.mem_append_right _ (List.mem_append_left _ (List.mem_of_getElem? (l := tables_1_4) (i := 150) rfl))))) rfl
theorem mw_4_151 : (.selects RX11 yX11_down yX11_down : Cond) ∈ wsA := wsA_t (List.mem_append_right _ (List.mem_append_right _ (List.mem_append_right _ (List.mem_append_left _ (List.mem_of_getElem? (l := tables_1_4) (i := 151) rfl))))) rfl
theorem mw_4_152 : (.code yX11_down cX11_down 3 (some .int) : Cond) ∈ wsA := wsA_t (List.mem_append_right _ (List.mem_append_right _ (List.mem_append_right _ (List.mem_append_left _ (List.mem_of_getElem? (l := tables_1_4) (i := 152) rfl))))) rfl
theorem mw_4_149 : (.methodLink RL 57 yX11_down : Cond) ∈ wsA := wsA_t (List.mem_append_right _ (List.mem_append_right _ (List.mem_append_right _ (List.mem_append_left _ (List.mem_of_getElem? (l := tables_1_4) (i := 149) rfl))))) rfl
theorem mw_7_179 : (.instanceMethod yX12_down : Cond) ∈ wsA := wsA_t (List.mem_append_right _ (List.mem_append_right _ (List.mem_append_right _ (List.mem_append_right _ (List.mem_append_right _ (List.mem_append_right _ (List.mem_append_left _ (List.mem_of_getElem? (l := tables_1_7) (i := 179) rfl)))))))) rfl
theorem mw_7_180 : (.selects RX12 yX12_down yX12_down : Cond) ∈ wsA := wsA_t (List.mem_append_right _ (List.mem_append_right _ (List.mem_append_right _ (List.mem_append_right _ (List.mem_append_right _ (List.mem_append_right _ (List.mem_append_left _ (List.mem_of_getElem? (l := tables_1_7) (i := 180) rfl)))))))) rfl
theorem mw_7_181 : (.code yX12_down cX12_down 2 (some .int) : Cond) ∈ wsA := wsA_t (List.mem_append_right _ (List.mem_append_right _ (List.mem_append_right _ (List.mem_append_right _ (List.mem_append_right _ (List.mem_append_right _ (List.mem_append_left _ (List.mem_of_getElem? (l := tables_1_7) (i := 181) rfl)))))))) rfl
theorem mw_7_178 : (.methodLink RL 60 yX12_down : Cond) ∈ wsA := wsA_t (List.mem_append_right _ (List.mem_append_right _ (List.mem_append_right _ (List.mem_append_right _ (List.mem_append_right _ (List.mem_append_right _ (List.mem_append_left _ (List.mem_of_getElem? (l := tables_1_7) (i := 178) rfl)))))))) rfl
theorem dL_law_462 : decode cL_law 462 = .ok (.aload_n 1, 1) := by decide +kernel
theorem dL_law_463 : decode cL_law 463 = .ok (.aload_n 0, 1) := by decide +kernel
theorem dL_law_464 : decode cL_law 464 = .ok (.iload_n 3, 1) := by decide +kernel
theorem dL_law_465 : decode cL_law 465 = .ok (.iconst 1, 1) := by decide +kernel
theorem dL_law_466 : decode cL_law 466 = .ok (.iadd, 1) := by decide +kernel
theorem dL_law_467 : decode cL_law 467 = .ok (.iaload, 1) := by decide +kernel
theorem dL_law_468 : decode cL_law 468 = .ok (.invokevirtual 57, 3) := by decide +kernel
theorem dL_law_471 : decode cL_law 471 = .ok (.pop, 1) := by decide +kernel
theorem dL_law_472 : decode cL_law 472 = .ok (.aload_n 2, 1) := by decide +kernel
theorem dL_law_473 : decode cL_law 473 = .ok (.aload_n 0, 1) := by decide +kernel
theorem dL_law_474 : decode cL_law 474 = .ok (.iload_n 3, 1) := by decide +kernel
theorem dL_law_475 : decode cL_law 475 = .ok (.iconst 1, 1) := by decide +kernel
theorem dL_law_476 : decode cL_law 476 = .ok (.iadd, 1) := by decide +kernel
theorem dL_law_477 : decode cL_law 477 = .ok (.iaload, 1) := by decide +kernel
theorem dL_law_478 : decode cL_law 478 = .ok (.invokevirtual 60, 3) := by decide +kernel
theorem dL_law_481 : decode cL_law 481 = .ok (.pop, 1) := by decide +kernel
theorem dL_law_482 : decode cL_law 482 = .ok (.goto 758, 3) := by decide +kernel
theorem mv_X11_down : MV RX11 yX11_down cX11_down 3 (some .int) 1 := ⟨mw_4_150, mw_4_151, mw_1_1, mw_4_152, ⟨rfl, by decide, by decide, by decide +kernel⟩⟩
theorem mv_X12_down : MV RX12 yX12_down cX12_down 2 (some .int) 1 := ⟨mw_7_179, mw_7_180, mw_1_13, mw_7_181, ⟨rfl, by decide, by decide, by decide +kernel⟩⟩
set_option maxHeartbeats 4000000 in
set_option maxRecDepth 100000 in
theorem law_c10 {p : Program} {e : Env} {s : State} {m : MethodId} {below : List Frame} {meth : Method} {c : Code} (l : Launch) {b Ls : Nat} {xs : Nat → Int32} (hLs : Ls ≤ 3072) (hx : p.tables.exec = Jvm.exec) (hb : c.code = code) (hr : meth.sig.returnType = ret) (hml : c.maxLocals = 4) (hown : s.vm.findClass RL = some m.cls) (hts : ∀ w ∈ wsA, w.before #[Value.ref b] s = true) (hX : va_X b Ls xs s s.heap) (hbl : b < s.heap.size) (hlocks : meth.locks = false) (D : va_G) (cA : Nat → ClassId) (hK : va_K D vwCl (tyA cA) s) (hN : NW s) (adK adV : Nat → Nat) (L : List Nat) (T : Nat → Nat) (r : Rg) (hLA : LA (fun q : Nat => s.heap.size ≤ q) L) (hG : GR L T r) (hV : SWL adK adV L s) (qx : Nat) (mqx : qx ∈ L) (tqx : T qx = 11) (bw : Nat) (mbw : bw ∈ L) (tbw : T bw = 10) (w0 : Nat) (mw0 : w0 ∈ L) (tw0 : T w0 = 13) (w1 : Nat) (mw1 : w1 ∈ L) (tw1 : T w1 = 14) (w2 : Nat) (mw2 : w2 ∈ L) (tw2 : T w2 = 15) (w3 : Nat) (mw3 : w3 ∈ L) (tw3 : T w3 = 16) (qm : Nat) (mqm : qm ∈ L) (tqm : T qm = 12) (bg : Nat) (mbg : bg ∈ L) (tbg : T bg = 62) (bk : Nat) (mbk : bk ∈ L) (tbk : T bk = 64) (bc : Nat) (mbc : bc ∈ L) (tbc : T bc = 65) (bx : Nat) (mbx : bx ∈ L) (tbx : T bx = 84) (bi : Nat) (mbi : bi ∈ L) (tbi : T bi = 85) (bf : Nat) (mbf : bf ∈ L) (tbf : T bf = 83) (ba : Nat) (mba : ba ∈ L) (tba : T ba = 60) (hbw : r qx 3 = some bw) (hba : r qx 4 = some ba) (hbg : r qm 3 = some bg) (hbk : r qm 5 = some bk) (hbc : r qm 6 = some bc) (hbx : r qm 42 = some bx) (hbi : r qm 43 = some bi) (hbf : r qm 41 = some bf) (hw0 : r ba 0 = some w0) (hw1 : r ba 1 = some w1) (hw2 : r ba 2 = some w2) (hw3 : r ba 3 = some w3) (hLG : LG T qx bw w0 w1 w2 w3 qm bg bk bc bx bi bf) (i : Int32) (li : 0 ≤ i.toInt) (ui : i.toInt ≤ 3066) (vi : i.toInt + 6 ≤ Ls) (σ0 σ : Sg) (ρ : Lg) (H : Heap) (hB : TS D cA L T r ry msL σ0 σ ρ H) (hI : LI σ qx bw w0 w1 w2 w3 qm bg bk bc bx bi bf) (locs : List Loc) (hS : va_S (fun q : Nat => s.heap.size ≤ q) s.heap H locs) (ls : Array Slot) (hl : lv_has ls 4 [(3, .int i), (2, .ref qm), (1, .ref qx), (0, .ref b)]) (kk : ∀ (σ2 : Sg) (ρ2 : Lg) (H : Heap) (locs : List Loc), TS D cA L T r ry msL σ0 σ2 ρ2 H → LI σ2 qx bw w0 w1 w2 w3 qm bg bk bc bx bi bf → va_S (fun q : Nat => s.heap.size ≤ q) s.heap H locs → W p l e room_1 s m #[Value.ref b] below meth c H locs 378 16064 (lw_Z below #[Value.ref b] s) (F0 m 1240 ls [])) : W p l e room_1 s m #[Value.ref b] below meth c H locs 378 16064 (lw_Z below #[Value.ref b] s) (F0 m 462 ls []) := by
  have hA : ∀ q : Nat, s.heap.size ≤ q → (fun q : Nat => s.heap.size ≤ q) q := fun _ h => h
  have hbA : ¬ (fun q : Nat => s.heap.size ≤ q) b := Nat.not_le.mpr hbl
  refine lv_aload_n hx hb dL_law_462 rfl (lv_at hl 2 rfl) ?_
  refine lv_aload_n hx hb dL_law_463 rfl (lv_at hl 3 rfl) ?_
  refine lv_iload_n hx hb dL_law_464 rfl (lv_at hl 0 rfl) ?_
  refine lv_iconst (v := 1) hx hb dL_law_465 (by decide) ?_
  refine lv_iadd hx hb dL_law_466 ?_
  refine lv_topi (fun x_1 ex_1 => ?_)
  have vx_1 := b_add (rfl : i.toInt = _) (by decide : (1 : Int32).toInt = 1) ex_1 (by omega) (by omega)
  refine va_sld hx hb hX hbl hbA hS (i_in (by omega) (by omega)) dL_law_467 ?_
  refine tp_i (w := xs (i.toInt.toNat + 1)) (by rw [show x_1.toNatClampNeg = i.toInt.toNat + 1 from (by have hn : x_1.toNatClampNeg = x_1.toInt.toNat := rfl; omega)]) ?_
  refine t_ci (va_runV (As := [.int (xs (i.toInt.toNat + 1))]) (rest := []) ⟨hx, hb, hml, hown, hts⟩ (cy_X11_down l D cA L T r hG hLA.1 σ ρ hB.2.1 _ qx mqx tqx (xs (i.toInt.toNat + 1))) (cV hts mv_X11_down mw_4_149 rfl rfl ⟨Nat.le_of_ble_eq_true rfl, Nat.le_of_ble_eq_true rfl⟩) (pV hB.1 hK hN mqx tqx (show shp cA 11 _ _ _ = .inr (11, Fs11 _ _ _) from rfl) rfl) rfl rfl hl.1 rfl (lv_room (Nat.le_of_ble_eq_true rfl)) dL_law_468 ⟨Nat.le_of_ble_eq_true rfl, Nat.le_of_ble_eq_true rfl⟩) hLA hA hB hS (by decide) (fun x_4 σ_2 ρ_3 H locs hB fσ_2 pσ_2 hS => ?_)
  have hI_5 : LI σ_2 qx bw w0 w1 w2 w3 qm bg bk bc bx bi bf := LI.fr hLG hI fσ_2 (by decide)
  refine lv_pop hx hb dL_law_471 rfl ?_
  refine lv_aload_n hx hb dL_law_472 rfl (lv_at hl 1 rfl) ?_
  refine lv_aload_n hx hb dL_law_473 rfl (lv_at hl 3 rfl) ?_
  refine lv_iload_n hx hb dL_law_474 rfl (lv_at hl 0 rfl) ?_
  refine lv_iconst (v := 1) hx hb dL_law_475 (by decide) ?_
  refine lv_iadd hx hb dL_law_476 ?_
  refine lv_topi (fun x_6 ex_6 => ?_)
  have vx_6 := b_add (rfl : i.toInt = _) (by decide : (1 : Int32).toInt = 1) ex_6 (by omega) (by omega)
  refine va_sld hx hb hX hbl hbA hS (i_in (by omega) (by omega)) dL_law_477 ?_
  refine tp_i (w := xs (i.toInt.toNat + 1)) (by rw [show x_6.toNatClampNeg = i.toInt.toNat + 1 from (by have hn : x_6.toNatClampNeg = x_6.toInt.toNat := rfl; omega)]) ?_
  refine t_ci (va_runV (As := [.int (xs (i.toInt.toNat + 1))]) (rest := []) ⟨hx, hb, hml, hown, hts⟩ (cy_X12_down l D cA L T r hG hLA.1 σ_2 ρ_3 hB.2.1 _ qm mqm tqm (xs (i.toInt.toNat + 1))) (cV hts mv_X12_down mw_7_178 rfl rfl ⟨Nat.le_of_ble_eq_true rfl, Nat.le_of_ble_eq_true rfl⟩) (pV hB.1 hK hN mqm tqm (show shp cA 12 _ _ _ = .inr (12, Fs12 _ _ _) from rfl) rfl) rfl rfl hl.1 rfl (lv_room (Nat.le_of_ble_eq_true rfl)) dL_law_478 ⟨Nat.le_of_ble_eq_true rfl, Nat.le_of_ble_eq_true rfl⟩) hLA hA hB hS (by decide) (fun x_9 σ_7 ρ_8 H locs hB fσ_7 pσ_7 hS => ?_)
  have hI_10 : LI σ_7 qx bw w0 w1 w2 w3 qm bg bk bc bx bi bf := LI.fr hLG hI_5 fσ_7 (by decide)
  refine lv_pop hx hb dL_law_481 rfl ?_
  refine lv_goto (tgt := 1240) hx hb dL_law_482 (by decide) ?_
  exact kk _ _ _ _ hB hI_10 hS
theorem mw_4_154 : (.instanceMethod yX11_take : Cond) ∈ wsA := wsA_t (List.mem_append_right _ (List.mem_append_right _ (List.mem_append_right _ (List.mem_append_left _ (List.mem_of_getElem? (l := tables_1_4) (i := 154) rfl))))) rfl
theorem mw_4_155 : (.selects RX11 yX11_take yX11_take : Cond) ∈ wsA := wsA_t (List.mem_append_right _ (List.mem_append_right _ (List.mem_append_right _ (List.mem_append_left _ (List.mem_of_getElem? (l := tables_1_4) (i := 155) rfl))))) rfl
theorem mw_4_156 : (.code yX11_take cX11_take 4 (some .int) : Cond) ∈ wsA := wsA_t (List.mem_append_right _ (List.mem_append_right _ (List.mem_append_right _ (List.mem_append_left _ (List.mem_of_getElem? (l := tables_1_4) (i := 156) rfl))))) rfl
theorem mw_4_153 : (.methodLink RL 61 yX11_take : Cond) ∈ wsA := wsA_t (List.mem_append_right _ (List.mem_append_right _ (List.mem_append_right _ (List.mem_append_left _ (List.mem_of_getElem? (l := tables_1_4) (i := 153) rfl))))) rfl
theorem mw_7_183 : (.instanceMethod yX12_take : Cond) ∈ wsA := wsA_t (List.mem_append_right _ (List.mem_append_right _ (List.mem_append_right _ (List.mem_append_right _ (List.mem_append_right _ (List.mem_append_right _ (List.mem_append_left _ (List.mem_of_getElem? (l := tables_1_7) (i := 183) rfl)))))))) rfl
theorem mw_7_184 : (.selects RX12 yX12_take yX12_take : Cond) ∈ wsA := wsA_t (List.mem_append_right _ (List.mem_append_right _ (List.mem_append_right _ (List.mem_append_right _ (List.mem_append_right _ (List.mem_append_right _ (List.mem_append_left _ (List.mem_of_getElem? (l := tables_1_7) (i := 184) rfl)))))))) rfl
theorem mw_7_185 : (.code yX12_take cX12_take 4 (some .int) : Cond) ∈ wsA := wsA_t (List.mem_append_right _ (List.mem_append_right _ (List.mem_append_right _ (List.mem_append_right _ (List.mem_append_right _ (List.mem_append_right _ (List.mem_append_left _ (List.mem_of_getElem? (l := tables_1_7) (i := 185) rfl)))))))) rfl
theorem mw_7_182 : (.methodLink RL 64 yX12_take : Cond) ∈ wsA := wsA_t (List.mem_append_right _ (List.mem_append_right _ (List.mem_append_right _ (List.mem_append_right _ (List.mem_append_right _ (List.mem_append_right _ (List.mem_append_left _ (List.mem_of_getElem? (l := tables_1_7) (i := 182) rfl)))))))) rfl
theorem dL_law_485 : decode cL_law 485 = .ok (.aload_n 1, 1) := by decide +kernel
theorem dL_law_486 : decode cL_law 486 = .ok (.aload_n 0, 1) := by decide +kernel
theorem dL_law_487 : decode cL_law 487 = .ok (.iload_n 3, 1) := by decide +kernel
theorem dL_law_488 : decode cL_law 488 = .ok (.iconst 1, 1) := by decide +kernel
theorem dL_law_489 : decode cL_law 489 = .ok (.iadd, 1) := by decide +kernel
theorem dL_law_490 : decode cL_law 490 = .ok (.iaload, 1) := by decide +kernel
theorem dL_law_491 : decode cL_law 491 = .ok (.aload_n 0, 1) := by decide +kernel
theorem dL_law_492 : decode cL_law 492 = .ok (.iload_n 3, 1) := by decide +kernel
theorem dL_law_493 : decode cL_law 493 = .ok (.iconst 2, 1) := by decide +kernel
theorem dL_law_494 : decode cL_law 494 = .ok (.iadd, 1) := by decide +kernel
theorem dL_law_495 : decode cL_law 495 = .ok (.iaload, 1) := by decide +kernel
theorem dL_law_496 : decode cL_law 496 = .ok (.invokevirtual 61, 3) := by decide +kernel
theorem dL_law_499 : decode cL_law 499 = .ok (.pop, 1) := by decide +kernel
theorem dL_law_500 : decode cL_law 500 = .ok (.aload_n 2, 1) := by decide +kernel
theorem dL_law_501 : decode cL_law 501 = .ok (.aload_n 0, 1) := by decide +kernel
theorem dL_law_502 : decode cL_law 502 = .ok (.iload_n 3, 1) := by decide +kernel
theorem dL_law_503 : decode cL_law 503 = .ok (.iconst 1, 1) := by decide +kernel
theorem dL_law_504 : decode cL_law 504 = .ok (.iadd, 1) := by decide +kernel
theorem dL_law_505 : decode cL_law 505 = .ok (.iaload, 1) := by decide +kernel
theorem dL_law_506 : decode cL_law 506 = .ok (.aload_n 0, 1) := by decide +kernel
theorem dL_law_507 : decode cL_law 507 = .ok (.iload_n 3, 1) := by decide +kernel
theorem dL_law_508 : decode cL_law 508 = .ok (.iconst 2, 1) := by decide +kernel
theorem dL_law_509 : decode cL_law 509 = .ok (.iadd, 1) := by decide +kernel
theorem dL_law_510 : decode cL_law 510 = .ok (.iaload, 1) := by decide +kernel
theorem dL_law_511 : decode cL_law 511 = .ok (.invokevirtual 64, 3) := by decide +kernel
theorem dL_law_514 : decode cL_law 514 = .ok (.pop, 1) := by decide +kernel
theorem dL_law_515 : decode cL_law 515 = .ok (.goto 725, 3) := by decide +kernel
theorem mv_X11_take : MV RX11 yX11_take cX11_take 4 (some .int) 2 := ⟨mw_4_154, mw_4_155, mw_1_1, mw_4_156, ⟨rfl, by decide, by decide, by decide +kernel⟩⟩
theorem mv_X12_take : MV RX12 yX12_take cX12_take 4 (some .int) 2 := ⟨mw_7_183, mw_7_184, mw_1_13, mw_7_185, ⟨rfl, by decide, by decide, by decide +kernel⟩⟩
set_option maxHeartbeats 4000000 in
set_option maxRecDepth 100000 in
theorem law_c11 {p : Program} {e : Env} {s : State} {m : MethodId} {below : List Frame} {meth : Method} {c : Code} (l : Launch) {b Ls : Nat} {xs : Nat → Int32} (hLs : Ls ≤ 3072) (hx : p.tables.exec = Jvm.exec) (hb : c.code = code) (hr : meth.sig.returnType = ret) (hml : c.maxLocals = 4) (hown : s.vm.findClass RL = some m.cls) (hts : ∀ w ∈ wsA, w.before #[Value.ref b] s = true) (hX : va_X b Ls xs s s.heap) (hbl : b < s.heap.size) (hlocks : meth.locks = false) (D : va_G) (cA : Nat → ClassId) (hK : va_K D vwCl (tyA cA) s) (hN : NW s) (adK adV : Nat → Nat) (L : List Nat) (T : Nat → Nat) (r : Rg) (hLA : LA (fun q : Nat => s.heap.size ≤ q) L) (hG : GR L T r) (hV : SWL adK adV L s) (qx : Nat) (mqx : qx ∈ L) (tqx : T qx = 11) (bw : Nat) (mbw : bw ∈ L) (tbw : T bw = 10) (w0 : Nat) (mw0 : w0 ∈ L) (tw0 : T w0 = 13) (w1 : Nat) (mw1 : w1 ∈ L) (tw1 : T w1 = 14) (w2 : Nat) (mw2 : w2 ∈ L) (tw2 : T w2 = 15) (w3 : Nat) (mw3 : w3 ∈ L) (tw3 : T w3 = 16) (qm : Nat) (mqm : qm ∈ L) (tqm : T qm = 12) (bg : Nat) (mbg : bg ∈ L) (tbg : T bg = 62) (bk : Nat) (mbk : bk ∈ L) (tbk : T bk = 64) (bc : Nat) (mbc : bc ∈ L) (tbc : T bc = 65) (bx : Nat) (mbx : bx ∈ L) (tbx : T bx = 84) (bi : Nat) (mbi : bi ∈ L) (tbi : T bi = 85) (bf : Nat) (mbf : bf ∈ L) (tbf : T bf = 83) (ba : Nat) (mba : ba ∈ L) (tba : T ba = 60) (hbw : r qx 3 = some bw) (hba : r qx 4 = some ba) (hbg : r qm 3 = some bg) (hbk : r qm 5 = some bk) (hbc : r qm 6 = some bc) (hbx : r qm 42 = some bx) (hbi : r qm 43 = some bi) (hbf : r qm 41 = some bf) (hw0 : r ba 0 = some w0) (hw1 : r ba 1 = some w1) (hw2 : r ba 2 = some w2) (hw3 : r ba 3 = some w3) (hLG : LG T qx bw w0 w1 w2 w3 qm bg bk bc bx bi bf) (i : Int32) (li : 0 ≤ i.toInt) (ui : i.toInt ≤ 3066) (vi : i.toInt + 6 ≤ Ls) (σ0 σ : Sg) (ρ : Lg) (H : Heap) (hB : TS D cA L T r ry msL σ0 σ ρ H) (hI : LI σ qx bw w0 w1 w2 w3 qm bg bk bc bx bi bf) (locs : List Loc) (hS : va_S (fun q : Nat => s.heap.size ≤ q) s.heap H locs) (ls : Array Slot) (hl : lv_has ls 4 [(3, .int i), (2, .ref qm), (1, .ref qx), (0, .ref b)]) (kk : ∀ (σ2 : Sg) (ρ2 : Lg) (H : Heap) (locs : List Loc), TS D cA L T r ry msL σ0 σ2 ρ2 H → LI σ2 qx bw w0 w1 w2 w3 qm bg bk bc bx bi bf → va_S (fun q : Nat => s.heap.size ≤ q) s.heap H locs → W p l e room_1 s m #[Value.ref b] below meth c H locs 378 16064 (lw_Z below #[Value.ref b] s) (F0 m 1240 ls [])) : W p l e room_1 s m #[Value.ref b] below meth c H locs 378 16064 (lw_Z below #[Value.ref b] s) (F0 m 485 ls []) := by
  have hA : ∀ q : Nat, s.heap.size ≤ q → (fun q : Nat => s.heap.size ≤ q) q := fun _ h => h
  have hbA : ¬ (fun q : Nat => s.heap.size ≤ q) b := Nat.not_le.mpr hbl
  refine lv_aload_n hx hb dL_law_485 rfl (lv_at hl 2 rfl) ?_
  refine lv_aload_n hx hb dL_law_486 rfl (lv_at hl 3 rfl) ?_
  refine lv_iload_n hx hb dL_law_487 rfl (lv_at hl 0 rfl) ?_
  refine lv_iconst (v := 1) hx hb dL_law_488 (by decide) ?_
  refine lv_iadd hx hb dL_law_489 ?_
  refine lv_topi (fun x_1 ex_1 => ?_)
  have vx_1 := b_add (rfl : i.toInt = _) (by decide : (1 : Int32).toInt = 1) ex_1 (by omega) (by omega)
  refine va_sld hx hb hX hbl hbA hS (i_in (by omega) (by omega)) dL_law_490 ?_
  refine tp_i (w := xs (i.toInt.toNat + 1)) (by rw [show x_1.toNatClampNeg = i.toInt.toNat + 1 from (by have hn : x_1.toNatClampNeg = x_1.toInt.toNat := rfl; omega)]) ?_
  refine lv_aload_n hx hb dL_law_491 rfl (lv_at hl 3 rfl) ?_
  refine lv_iload_n hx hb dL_law_492 rfl (lv_at hl 0 rfl) ?_
  refine lv_iconst (v := 2) hx hb dL_law_493 (by decide) ?_
  refine lv_iadd hx hb dL_law_494 ?_
  refine lv_topi (fun x_2 ex_2 => ?_)
  have vx_2 := b_add (rfl : i.toInt = _) (by decide : (2 : Int32).toInt = 2) ex_2 (by omega) (by omega)
  refine va_sld hx hb hX hbl hbA hS (i_in (by omega) (by omega)) dL_law_495 ?_
  refine tp_i (w := xs (i.toInt.toNat + 2)) (by rw [show x_2.toNatClampNeg = i.toInt.toNat + 2 from (by have hn : x_2.toNatClampNeg = x_2.toInt.toNat := rfl; omega)]) ?_
  refine t_ci (va_runV (As := [.int (xs (i.toInt.toNat + 1)), .int (xs (i.toInt.toNat + 2))]) (rest := []) ⟨hx, hb, hml, hown, hts⟩ (cy_X11_take l D cA L T r hG hLA.1 σ ρ hB.2.1 _ qx mqx tqx (xs (i.toInt.toNat + 1)) (xs (i.toInt.toNat + 2))) (cV hts mv_X11_take mw_4_153 rfl rfl ⟨Nat.le_of_ble_eq_true rfl, Nat.le_of_ble_eq_true rfl⟩) (pV hB.1 hK hN mqx tqx (show shp cA 11 _ _ _ = .inr (11, Fs11 _ _ _) from rfl) rfl) rfl rfl hl.1 rfl (lv_room (Nat.le_of_ble_eq_true rfl)) dL_law_496 ⟨Nat.le_of_ble_eq_true rfl, Nat.le_of_ble_eq_true rfl⟩) hLA hA hB hS (by decide) (fun x_5 σ_3 ρ_4 H locs hB fσ_3 pσ_3 hS => ?_)
  have hI_6 : LI σ_3 qx bw w0 w1 w2 w3 qm bg bk bc bx bi bf := LI.fr hLG hI fσ_3 (by decide)
  refine lv_pop hx hb dL_law_499 rfl ?_
  refine lv_aload_n hx hb dL_law_500 rfl (lv_at hl 1 rfl) ?_
  refine lv_aload_n hx hb dL_law_501 rfl (lv_at hl 3 rfl) ?_
  refine lv_iload_n hx hb dL_law_502 rfl (lv_at hl 0 rfl) ?_
  refine lv_iconst (v := 1) hx hb dL_law_503 (by decide) ?_
  refine lv_iadd hx hb dL_law_504 ?_
  refine lv_topi (fun x_7 ex_7 => ?_)
  have vx_7 := b_add (rfl : i.toInt = _) (by decide : (1 : Int32).toInt = 1) ex_7 (by omega) (by omega)
  refine va_sld hx hb hX hbl hbA hS (i_in (by omega) (by omega)) dL_law_505 ?_
  refine tp_i (w := xs (i.toInt.toNat + 1)) (by rw [show x_7.toNatClampNeg = i.toInt.toNat + 1 from (by have hn : x_7.toNatClampNeg = x_7.toInt.toNat := rfl; omega)]) ?_
  refine lv_aload_n hx hb dL_law_506 rfl (lv_at hl 3 rfl) ?_
  refine lv_iload_n hx hb dL_law_507 rfl (lv_at hl 0 rfl) ?_
  refine lv_iconst (v := 2) hx hb dL_law_508 (by decide) ?_
  refine lv_iadd hx hb dL_law_509 ?_
  refine lv_topi (fun x_8 ex_8 => ?_)
  have vx_8 := b_add (rfl : i.toInt = _) (by decide : (2 : Int32).toInt = 2) ex_8 (by omega) (by omega)
  refine va_sld hx hb hX hbl hbA hS (i_in (by omega) (by omega)) dL_law_510 ?_
  refine tp_i (w := xs (i.toInt.toNat + 2)) (by rw [show x_8.toNatClampNeg = i.toInt.toNat + 2 from (by have hn : x_8.toNatClampNeg = x_8.toInt.toNat := rfl; omega)]) ?_
  obtain ⟨b_9, hb_9, mb_9, tb_9⟩ := hG qm mqm 20 _ (by rw [tqm]; rfl)
  refine t_ci (va_runV (As := [.int (xs (i.toInt.toNat + 1)), .int (xs (i.toInt.toNat + 2))]) (rest := []) ⟨hx, hb, hml, hown, hts⟩ (cy_X12_take l D cA L T r hG hLA.1 σ_3 ρ_4 hB.2.1 _ qm mqm tqm (xs (i.toInt.toNat + 1)) (xs (i.toInt.toNat + 2)) b_9 hb_9 mb_9 tb_9) (cV hts mv_X12_take mw_7_182 rfl rfl ⟨Nat.le_of_ble_eq_true rfl, Nat.le_of_ble_eq_true rfl⟩) (pV hB.1 hK hN mqm tqm (show shp cA 12 _ _ _ = .inr (12, Fs12 _ _ _) from rfl) rfl) rfl rfl hl.1 rfl (lv_room (Nat.le_of_ble_eq_true rfl)) dL_law_511 ⟨Nat.le_of_ble_eq_true rfl, Nat.le_of_ble_eq_true rfl⟩) hLA hA hB hS (by decide) (fun x_12 σ_10 ρ_11 H locs hB fσ_10 pσ_10 hS => ?_)
  have hI_13 : LI σ_10 qx bw w0 w1 w2 w3 qm bg bk bc bx bi bf := LI.fr hLG hI_6 fσ_10 (by decide)
  refine lv_pop hx hb dL_law_514 rfl ?_
  refine lv_goto (tgt := 1240) hx hb dL_law_515 (by decide) ?_
  exact kk _ _ _ _ hB hI_13 hS
theorem mw_4_171 : (.instanceMethod yX11_buy : Cond) ∈ wsA := wsA_t (List.mem_append_right _ (List.mem_append_right _ (List.mem_append_right _ (List.mem_append_left _ (List.mem_of_getElem? (l := tables_1_4) (i := 171) rfl))))) rfl
theorem mw_4_172 : (.selects RX11 yX11_buy yX11_buy : Cond) ∈ wsA := wsA_t (List.mem_append_right _ (List.mem_append_right _ (List.mem_append_right _ (List.mem_append_left _ (List.mem_of_getElem? (l := tables_1_4) (i := 172) rfl))))) rfl
theorem mw_4_173 : (.code yX11_buy cX11_buy 4 (some .int) : Cond) ∈ wsA := wsA_t (List.mem_append_right _ (List.mem_append_right _ (List.mem_append_right _ (List.mem_append_left _ (List.mem_of_getElem? (l := tables_1_4) (i := 173) rfl))))) rfl
theorem mw_4_170 : (.methodLink RL 65 yX11_buy : Cond) ∈ wsA := wsA_t (List.mem_append_right _ (List.mem_append_right _ (List.mem_append_right _ (List.mem_append_left _ (List.mem_of_getElem? (l := tables_1_4) (i := 170) rfl))))) rfl
theorem mw_7_191 : (.instanceMethod yX12_buy : Cond) ∈ wsA := wsA_t (List.mem_append_right _ (List.mem_append_right _ (List.mem_append_right _ (List.mem_append_right _ (List.mem_append_right _ (List.mem_append_right _ (List.mem_append_left _ (List.mem_of_getElem? (l := tables_1_7) (i := 191) rfl)))))))) rfl
theorem mw_7_192 : (.selects RX12 yX12_buy yX12_buy : Cond) ∈ wsA := wsA_t (List.mem_append_right _ (List.mem_append_right _ (List.mem_append_right _ (List.mem_append_right _ (List.mem_append_right _ (List.mem_append_right _ (List.mem_append_left _ (List.mem_of_getElem? (l := tables_1_7) (i := 192) rfl)))))))) rfl
theorem mw_7_193 : (.code yX12_buy cX12_buy 3 (some .int) : Cond) ∈ wsA := wsA_t (List.mem_append_right _ (List.mem_append_right _ (List.mem_append_right _ (List.mem_append_right _ (List.mem_append_right _ (List.mem_append_right _ (List.mem_append_left _ (List.mem_of_getElem? (l := tables_1_7) (i := 193) rfl)))))))) rfl
theorem mw_7_190 : (.methodLink RL 68 yX12_buy : Cond) ∈ wsA := wsA_t (List.mem_append_right _ (List.mem_append_right _ (List.mem_append_right _ (List.mem_append_right _ (List.mem_append_right _ (List.mem_append_right _ (List.mem_append_left _ (List.mem_of_getElem? (l := tables_1_7) (i := 190) rfl)))))))) rfl
theorem dL_law_518 : decode cL_law 518 = .ok (.aload_n 1, 1) := by decide +kernel
theorem dL_law_519 : decode cL_law 519 = .ok (.aload_n 0, 1) := by decide +kernel
theorem dL_law_520 : decode cL_law 520 = .ok (.iload_n 3, 1) := by decide +kernel
theorem dL_law_521 : decode cL_law 521 = .ok (.iconst 1, 1) := by decide +kernel
theorem dL_law_522 : decode cL_law 522 = .ok (.iadd, 1) := by decide +kernel
theorem dL_law_523 : decode cL_law 523 = .ok (.iaload, 1) := by decide +kernel
theorem dL_law_524 : decode cL_law 524 = .ok (.aload_n 0, 1) := by decide +kernel
theorem dL_law_525 : decode cL_law 525 = .ok (.iload_n 3, 1) := by decide +kernel
theorem dL_law_526 : decode cL_law 526 = .ok (.iconst 2, 1) := by decide +kernel
theorem dL_law_527 : decode cL_law 527 = .ok (.iadd, 1) := by decide +kernel
theorem dL_law_528 : decode cL_law 528 = .ok (.iaload, 1) := by decide +kernel
theorem dL_law_529 : decode cL_law 529 = .ok (.invokevirtual 65, 3) := by decide +kernel
theorem dL_law_532 : decode cL_law 532 = .ok (.pop, 1) := by decide +kernel
theorem dL_law_533 : decode cL_law 533 = .ok (.aload_n 2, 1) := by decide +kernel
theorem dL_law_534 : decode cL_law 534 = .ok (.aload_n 0, 1) := by decide +kernel
theorem dL_law_535 : decode cL_law 535 = .ok (.iload_n 3, 1) := by decide +kernel
theorem dL_law_536 : decode cL_law 536 = .ok (.iconst 1, 1) := by decide +kernel
theorem dL_law_537 : decode cL_law 537 = .ok (.iadd, 1) := by decide +kernel
theorem dL_law_538 : decode cL_law 538 = .ok (.iaload, 1) := by decide +kernel
theorem dL_law_539 : decode cL_law 539 = .ok (.aload_n 0, 1) := by decide +kernel
theorem dL_law_540 : decode cL_law 540 = .ok (.iload_n 3, 1) := by decide +kernel
theorem dL_law_541 : decode cL_law 541 = .ok (.iconst 2, 1) := by decide +kernel
theorem dL_law_542 : decode cL_law 542 = .ok (.iadd, 1) := by decide +kernel
theorem dL_law_543 : decode cL_law 543 = .ok (.iaload, 1) := by decide +kernel
theorem dL_law_544 : decode cL_law 544 = .ok (.invokevirtual 68, 3) := by decide +kernel
theorem dL_law_547 : decode cL_law 547 = .ok (.pop, 1) := by decide +kernel
theorem dL_law_548 : decode cL_law 548 = .ok (.goto 692, 3) := by decide +kernel
theorem mv_X11_buy : MV RX11 yX11_buy cX11_buy 4 (some .int) 2 := ⟨mw_4_171, mw_4_172, mw_1_1, mw_4_173, ⟨rfl, by decide, by decide, by decide +kernel⟩⟩
theorem mv_X12_buy : MV RX12 yX12_buy cX12_buy 3 (some .int) 2 := ⟨mw_7_191, mw_7_192, mw_1_13, mw_7_193, ⟨rfl, by decide, by decide, by decide +kernel⟩⟩
set_option maxHeartbeats 4000000 in
set_option maxRecDepth 100000 in
theorem law_c12 {p : Program} {e : Env} {s : State} {m : MethodId} {below : List Frame} {meth : Method} {c : Code} (l : Launch) {b Ls : Nat} {xs : Nat → Int32} (hLs : Ls ≤ 3072) (hx : p.tables.exec = Jvm.exec) (hb : c.code = code) (hr : meth.sig.returnType = ret) (hml : c.maxLocals = 4) (hown : s.vm.findClass RL = some m.cls) (hts : ∀ w ∈ wsA, w.before #[Value.ref b] s = true) (hX : va_X b Ls xs s s.heap) (hbl : b < s.heap.size) (hlocks : meth.locks = false) (D : va_G) (cA : Nat → ClassId) (hK : va_K D vwCl (tyA cA) s) (hN : NW s) (adK adV : Nat → Nat) (L : List Nat) (T : Nat → Nat) (r : Rg) (hLA : LA (fun q : Nat => s.heap.size ≤ q) L) (hG : GR L T r) (hV : SWL adK adV L s) (qx : Nat) (mqx : qx ∈ L) (tqx : T qx = 11) (bw : Nat) (mbw : bw ∈ L) (tbw : T bw = 10) (w0 : Nat) (mw0 : w0 ∈ L) (tw0 : T w0 = 13) (w1 : Nat) (mw1 : w1 ∈ L) (tw1 : T w1 = 14) (w2 : Nat) (mw2 : w2 ∈ L) (tw2 : T w2 = 15) (w3 : Nat) (mw3 : w3 ∈ L) (tw3 : T w3 = 16) (qm : Nat) (mqm : qm ∈ L) (tqm : T qm = 12) (bg : Nat) (mbg : bg ∈ L) (tbg : T bg = 62) (bk : Nat) (mbk : bk ∈ L) (tbk : T bk = 64) (bc : Nat) (mbc : bc ∈ L) (tbc : T bc = 65) (bx : Nat) (mbx : bx ∈ L) (tbx : T bx = 84) (bi : Nat) (mbi : bi ∈ L) (tbi : T bi = 85) (bf : Nat) (mbf : bf ∈ L) (tbf : T bf = 83) (ba : Nat) (mba : ba ∈ L) (tba : T ba = 60) (hbw : r qx 3 = some bw) (hba : r qx 4 = some ba) (hbg : r qm 3 = some bg) (hbk : r qm 5 = some bk) (hbc : r qm 6 = some bc) (hbx : r qm 42 = some bx) (hbi : r qm 43 = some bi) (hbf : r qm 41 = some bf) (hw0 : r ba 0 = some w0) (hw1 : r ba 1 = some w1) (hw2 : r ba 2 = some w2) (hw3 : r ba 3 = some w3) (hLG : LG T qx bw w0 w1 w2 w3 qm bg bk bc bx bi bf) (i : Int32) (li : 0 ≤ i.toInt) (ui : i.toInt ≤ 3066) (vi : i.toInt + 6 ≤ Ls) (σ0 σ : Sg) (ρ : Lg) (H : Heap) (hB : TS D cA L T r ry msL σ0 σ ρ H) (hI : LI σ qx bw w0 w1 w2 w3 qm bg bk bc bx bi bf) (locs : List Loc) (hS : va_S (fun q : Nat => s.heap.size ≤ q) s.heap H locs) (ls : Array Slot) (hl : lv_has ls 4 [(3, .int i), (2, .ref qm), (1, .ref qx), (0, .ref b)]) (kk : ∀ (σ2 : Sg) (ρ2 : Lg) (H : Heap) (locs : List Loc), TS D cA L T r ry msL σ0 σ2 ρ2 H → LI σ2 qx bw w0 w1 w2 w3 qm bg bk bc bx bi bf → va_S (fun q : Nat => s.heap.size ≤ q) s.heap H locs → W p l e room_1 s m #[Value.ref b] below meth c H locs 378 16064 (lw_Z below #[Value.ref b] s) (F0 m 1240 ls [])) : W p l e room_1 s m #[Value.ref b] below meth c H locs 378 16064 (lw_Z below #[Value.ref b] s) (F0 m 518 ls []) := by
  have hA : ∀ q : Nat, s.heap.size ≤ q → (fun q : Nat => s.heap.size ≤ q) q := fun _ h => h
  have hbA : ¬ (fun q : Nat => s.heap.size ≤ q) b := Nat.not_le.mpr hbl
  refine lv_aload_n hx hb dL_law_518 rfl (lv_at hl 2 rfl) ?_
  refine lv_aload_n hx hb dL_law_519 rfl (lv_at hl 3 rfl) ?_
  refine lv_iload_n hx hb dL_law_520 rfl (lv_at hl 0 rfl) ?_
  refine lv_iconst (v := 1) hx hb dL_law_521 (by decide) ?_
  refine lv_iadd hx hb dL_law_522 ?_
  refine lv_topi (fun x_1 ex_1 => ?_)
  have vx_1 := b_add (rfl : i.toInt = _) (by decide : (1 : Int32).toInt = 1) ex_1 (by omega) (by omega)
  refine va_sld hx hb hX hbl hbA hS (i_in (by omega) (by omega)) dL_law_523 ?_
  refine tp_i (w := xs (i.toInt.toNat + 1)) (by rw [show x_1.toNatClampNeg = i.toInt.toNat + 1 from (by have hn : x_1.toNatClampNeg = x_1.toInt.toNat := rfl; omega)]) ?_
  refine lv_aload_n hx hb dL_law_524 rfl (lv_at hl 3 rfl) ?_
  refine lv_iload_n hx hb dL_law_525 rfl (lv_at hl 0 rfl) ?_
  refine lv_iconst (v := 2) hx hb dL_law_526 (by decide) ?_
  refine lv_iadd hx hb dL_law_527 ?_
  refine lv_topi (fun x_2 ex_2 => ?_)
  have vx_2 := b_add (rfl : i.toInt = _) (by decide : (2 : Int32).toInt = 2) ex_2 (by omega) (by omega)
  refine va_sld hx hb hX hbl hbA hS (i_in (by omega) (by omega)) dL_law_528 ?_
  refine tp_i (w := xs (i.toInt.toNat + 2)) (by rw [show x_2.toNatClampNeg = i.toInt.toNat + 2 from (by have hn : x_2.toNatClampNeg = x_2.toInt.toNat := rfl; omega)]) ?_
  refine t_ci (va_runV (As := [.int (xs (i.toInt.toNat + 1)), .int (xs (i.toInt.toNat + 2))]) (rest := []) ⟨hx, hb, hml, hown, hts⟩ (cy_X11_buy l D cA L T r hG hLA.1 σ ρ hB.2.1 _ qx mqx tqx (xs (i.toInt.toNat + 1)) (xs (i.toInt.toNat + 2))) (cV hts mv_X11_buy mw_4_170 rfl rfl ⟨Nat.le_of_ble_eq_true rfl, Nat.le_of_ble_eq_true rfl⟩) (pV hB.1 hK hN mqx tqx (show shp cA 11 _ _ _ = .inr (11, Fs11 _ _ _) from rfl) rfl) rfl rfl hl.1 rfl (lv_room (Nat.le_of_ble_eq_true rfl)) dL_law_529 ⟨Nat.le_of_ble_eq_true rfl, Nat.le_of_ble_eq_true rfl⟩) hLA hA hB hS (by decide) (fun x_5 σ_3 ρ_4 H locs hB fσ_3 pσ_3 hS => ?_)
  have hI_6 : LI σ_3 qx bw w0 w1 w2 w3 qm bg bk bc bx bi bf := LI.fr hLG hI fσ_3 (by decide)
  refine lv_pop hx hb dL_law_532 rfl ?_
  refine lv_aload_n hx hb dL_law_533 rfl (lv_at hl 1 rfl) ?_
  refine lv_aload_n hx hb dL_law_534 rfl (lv_at hl 3 rfl) ?_
  refine lv_iload_n hx hb dL_law_535 rfl (lv_at hl 0 rfl) ?_
  refine lv_iconst (v := 1) hx hb dL_law_536 (by decide) ?_
  refine lv_iadd hx hb dL_law_537 ?_
  refine lv_topi (fun x_7 ex_7 => ?_)
  have vx_7 := b_add (rfl : i.toInt = _) (by decide : (1 : Int32).toInt = 1) ex_7 (by omega) (by omega)
  refine va_sld hx hb hX hbl hbA hS (i_in (by omega) (by omega)) dL_law_538 ?_
  refine tp_i (w := xs (i.toInt.toNat + 1)) (by rw [show x_7.toNatClampNeg = i.toInt.toNat + 1 from (by have hn : x_7.toNatClampNeg = x_7.toInt.toNat := rfl; omega)]) ?_
  refine lv_aload_n hx hb dL_law_539 rfl (lv_at hl 3 rfl) ?_
  refine lv_iload_n hx hb dL_law_540 rfl (lv_at hl 0 rfl) ?_
  refine lv_iconst (v := 2) hx hb dL_law_541 (by decide) ?_
  refine lv_iadd hx hb dL_law_542 ?_
  refine lv_topi (fun x_8 ex_8 => ?_)
  have vx_8 := b_add (rfl : i.toInt = _) (by decide : (2 : Int32).toInt = 2) ex_8 (by omega) (by omega)
  refine va_sld hx hb hX hbl hbA hS (i_in (by omega) (by omega)) dL_law_543 ?_
  refine tp_i (w := xs (i.toInt.toNat + 2)) (by rw [show x_8.toNatClampNeg = i.toInt.toNat + 2 from (by have hn : x_8.toNatClampNeg = x_8.toInt.toNat := rfl; omega)]) ?_
  refine t_ci (va_runV (As := [.int (xs (i.toInt.toNat + 1)), .int (xs (i.toInt.toNat + 2))]) (rest := []) ⟨hx, hb, hml, hown, hts⟩ (cy_X12_buy l D cA L T r hG hLA.1 σ_3 ρ_4 hB.2.1 _ qm mqm tqm (xs (i.toInt.toNat + 1)) (xs (i.toInt.toNat + 2))) (cV hts mv_X12_buy mw_7_190 rfl rfl ⟨Nat.le_of_ble_eq_true rfl, Nat.le_of_ble_eq_true rfl⟩) (pV hB.1 hK hN mqm tqm (show shp cA 12 _ _ _ = .inr (12, Fs12 _ _ _) from rfl) rfl) rfl rfl hl.1 rfl (lv_room (Nat.le_of_ble_eq_true rfl)) dL_law_544 ⟨Nat.le_of_ble_eq_true rfl, Nat.le_of_ble_eq_true rfl⟩) hLA hA hB hS (by decide) (fun x_11 σ_9 ρ_10 H locs hB fσ_9 pσ_9 hS => ?_)
  have hI_12 : LI σ_9 qx bw w0 w1 w2 w3 qm bg bk bc bx bi bf := LI.fr hLG hI_6 fσ_9 (by decide)
  refine lv_pop hx hb dL_law_547 rfl ?_
  refine lv_goto (tgt := 1240) hx hb dL_law_548 (by decide) ?_
  exact kk _ _ _ _ hB hI_12 hS
theorem mw_4_179 : (.instanceMethod yX11_sell : Cond) ∈ wsA := wsA_t (List.mem_append_right _ (List.mem_append_right _ (List.mem_append_right _ (List.mem_append_left _ (List.mem_of_getElem? (l := tables_1_4) (i := 179) rfl))))) rfl
theorem mw_4_180 : (.selects RX11 yX11_sell yX11_sell : Cond) ∈ wsA := wsA_t (List.mem_append_right _ (List.mem_append_right _ (List.mem_append_right _ (List.mem_append_left _ (List.mem_of_getElem? (l := tables_1_4) (i := 180) rfl))))) rfl
theorem mw_4_181 : (.code yX11_sell cX11_sell 4 (some .int) : Cond) ∈ wsA := wsA_t (List.mem_append_right _ (List.mem_append_right _ (List.mem_append_right _ (List.mem_append_left _ (List.mem_of_getElem? (l := tables_1_4) (i := 181) rfl))))) rfl
theorem mw_4_178 : (.methodLink RL 69 yX11_sell : Cond) ∈ wsA := wsA_t (List.mem_append_right _ (List.mem_append_right _ (List.mem_append_right _ (List.mem_append_left _ (List.mem_of_getElem? (l := tables_1_4) (i := 178) rfl))))) rfl
theorem mw_7_199 : (.instanceMethod yX12_sell : Cond) ∈ wsA := wsA_t (List.mem_append_right _ (List.mem_append_right _ (List.mem_append_right _ (List.mem_append_right _ (List.mem_append_right _ (List.mem_append_right _ (List.mem_append_left _ (List.mem_of_getElem? (l := tables_1_7) (i := 199) rfl)))))))) rfl
theorem mw_7_200 : (.selects RX12 yX12_sell yX12_sell : Cond) ∈ wsA := wsA_t (List.mem_append_right _ (List.mem_append_right _ (List.mem_append_right _ (List.mem_append_right _ (List.mem_append_right _ (List.mem_append_right _ (List.mem_append_left _ (List.mem_of_getElem? (l := tables_1_7) (i := 200) rfl)))))))) rfl
theorem mw_7_201 : (.code yX12_sell cX12_sell 3 (some .int) : Cond) ∈ wsA := wsA_t (List.mem_append_right _ (List.mem_append_right _ (List.mem_append_right _ (List.mem_append_right _ (List.mem_append_right _ (List.mem_append_right _ (List.mem_append_left _ (List.mem_of_getElem? (l := tables_1_7) (i := 201) rfl)))))))) rfl
theorem mw_7_198 : (.methodLink RL 72 yX12_sell : Cond) ∈ wsA := wsA_t (List.mem_append_right _ (List.mem_append_right _ (List.mem_append_right _ (List.mem_append_right _ (List.mem_append_right _ (List.mem_append_right _ (List.mem_append_left _ (List.mem_of_getElem? (l := tables_1_7) (i := 198) rfl)))))))) rfl
theorem dL_law_551 : decode cL_law 551 = .ok (.aload_n 1, 1) := by decide +kernel
theorem dL_law_552 : decode cL_law 552 = .ok (.aload_n 0, 1) := by decide +kernel
theorem dL_law_553 : decode cL_law 553 = .ok (.iload_n 3, 1) := by decide +kernel
theorem dL_law_554 : decode cL_law 554 = .ok (.iconst 1, 1) := by decide +kernel
theorem dL_law_555 : decode cL_law 555 = .ok (.iadd, 1) := by decide +kernel
theorem dL_law_556 : decode cL_law 556 = .ok (.iaload, 1) := by decide +kernel
theorem dL_law_557 : decode cL_law 557 = .ok (.aload_n 0, 1) := by decide +kernel
theorem dL_law_558 : decode cL_law 558 = .ok (.iload_n 3, 1) := by decide +kernel
theorem dL_law_559 : decode cL_law 559 = .ok (.iconst 2, 1) := by decide +kernel
theorem dL_law_560 : decode cL_law 560 = .ok (.iadd, 1) := by decide +kernel
theorem dL_law_561 : decode cL_law 561 = .ok (.iaload, 1) := by decide +kernel
theorem dL_law_562 : decode cL_law 562 = .ok (.invokevirtual 69, 3) := by decide +kernel
theorem dL_law_565 : decode cL_law 565 = .ok (.pop, 1) := by decide +kernel
theorem dL_law_566 : decode cL_law 566 = .ok (.aload_n 2, 1) := by decide +kernel
theorem dL_law_567 : decode cL_law 567 = .ok (.aload_n 0, 1) := by decide +kernel
theorem dL_law_568 : decode cL_law 568 = .ok (.iload_n 3, 1) := by decide +kernel
theorem dL_law_569 : decode cL_law 569 = .ok (.iconst 1, 1) := by decide +kernel
theorem dL_law_570 : decode cL_law 570 = .ok (.iadd, 1) := by decide +kernel
theorem dL_law_571 : decode cL_law 571 = .ok (.iaload, 1) := by decide +kernel
theorem dL_law_572 : decode cL_law 572 = .ok (.aload_n 0, 1) := by decide +kernel
theorem dL_law_573 : decode cL_law 573 = .ok (.iload_n 3, 1) := by decide +kernel
theorem dL_law_574 : decode cL_law 574 = .ok (.iconst 2, 1) := by decide +kernel
theorem dL_law_575 : decode cL_law 575 = .ok (.iadd, 1) := by decide +kernel
theorem dL_law_576 : decode cL_law 576 = .ok (.iaload, 1) := by decide +kernel
theorem dL_law_577 : decode cL_law 577 = .ok (.invokevirtual 72, 3) := by decide +kernel
theorem dL_law_580 : decode cL_law 580 = .ok (.pop, 1) := by decide +kernel
theorem dL_law_581 : decode cL_law 581 = .ok (.goto 659, 3) := by decide +kernel
theorem mv_X11_sell : MV RX11 yX11_sell cX11_sell 4 (some .int) 2 := ⟨mw_4_179, mw_4_180, mw_1_1, mw_4_181, ⟨rfl, by decide, by decide, by decide +kernel⟩⟩
theorem mv_X12_sell : MV RX12 yX12_sell cX12_sell 3 (some .int) 2 := ⟨mw_7_199, mw_7_200, mw_1_13, mw_7_201, ⟨rfl, by decide, by decide, by decide +kernel⟩⟩
set_option maxHeartbeats 4000000 in
set_option maxRecDepth 100000 in
theorem law_c13 {p : Program} {e : Env} {s : State} {m : MethodId} {below : List Frame} {meth : Method} {c : Code} (l : Launch) {b Ls : Nat} {xs : Nat → Int32} (hLs : Ls ≤ 3072) (hx : p.tables.exec = Jvm.exec) (hb : c.code = code) (hr : meth.sig.returnType = ret) (hml : c.maxLocals = 4) (hown : s.vm.findClass RL = some m.cls) (hts : ∀ w ∈ wsA, w.before #[Value.ref b] s = true) (hX : va_X b Ls xs s s.heap) (hbl : b < s.heap.size) (hlocks : meth.locks = false) (D : va_G) (cA : Nat → ClassId) (hK : va_K D vwCl (tyA cA) s) (hN : NW s) (adK adV : Nat → Nat) (L : List Nat) (T : Nat → Nat) (r : Rg) (hLA : LA (fun q : Nat => s.heap.size ≤ q) L) (hG : GR L T r) (hV : SWL adK adV L s) (qx : Nat) (mqx : qx ∈ L) (tqx : T qx = 11) (bw : Nat) (mbw : bw ∈ L) (tbw : T bw = 10) (w0 : Nat) (mw0 : w0 ∈ L) (tw0 : T w0 = 13) (w1 : Nat) (mw1 : w1 ∈ L) (tw1 : T w1 = 14) (w2 : Nat) (mw2 : w2 ∈ L) (tw2 : T w2 = 15) (w3 : Nat) (mw3 : w3 ∈ L) (tw3 : T w3 = 16) (qm : Nat) (mqm : qm ∈ L) (tqm : T qm = 12) (bg : Nat) (mbg : bg ∈ L) (tbg : T bg = 62) (bk : Nat) (mbk : bk ∈ L) (tbk : T bk = 64) (bc : Nat) (mbc : bc ∈ L) (tbc : T bc = 65) (bx : Nat) (mbx : bx ∈ L) (tbx : T bx = 84) (bi : Nat) (mbi : bi ∈ L) (tbi : T bi = 85) (bf : Nat) (mbf : bf ∈ L) (tbf : T bf = 83) (ba : Nat) (mba : ba ∈ L) (tba : T ba = 60) (hbw : r qx 3 = some bw) (hba : r qx 4 = some ba) (hbg : r qm 3 = some bg) (hbk : r qm 5 = some bk) (hbc : r qm 6 = some bc) (hbx : r qm 42 = some bx) (hbi : r qm 43 = some bi) (hbf : r qm 41 = some bf) (hw0 : r ba 0 = some w0) (hw1 : r ba 1 = some w1) (hw2 : r ba 2 = some w2) (hw3 : r ba 3 = some w3) (hLG : LG T qx bw w0 w1 w2 w3 qm bg bk bc bx bi bf) (i : Int32) (li : 0 ≤ i.toInt) (ui : i.toInt ≤ 3066) (vi : i.toInt + 6 ≤ Ls) (σ0 σ : Sg) (ρ : Lg) (H : Heap) (hB : TS D cA L T r ry msL σ0 σ ρ H) (hI : LI σ qx bw w0 w1 w2 w3 qm bg bk bc bx bi bf) (locs : List Loc) (hS : va_S (fun q : Nat => s.heap.size ≤ q) s.heap H locs) (ls : Array Slot) (hl : lv_has ls 4 [(3, .int i), (2, .ref qm), (1, .ref qx), (0, .ref b)]) (kk : ∀ (σ2 : Sg) (ρ2 : Lg) (H : Heap) (locs : List Loc), TS D cA L T r ry msL σ0 σ2 ρ2 H → LI σ2 qx bw w0 w1 w2 w3 qm bg bk bc bx bi bf → va_S (fun q : Nat => s.heap.size ≤ q) s.heap H locs → W p l e room_1 s m #[Value.ref b] below meth c H locs 378 16064 (lw_Z below #[Value.ref b] s) (F0 m 1240 ls [])) : W p l e room_1 s m #[Value.ref b] below meth c H locs 378 16064 (lw_Z below #[Value.ref b] s) (F0 m 551 ls []) := by
  have hA : ∀ q : Nat, s.heap.size ≤ q → (fun q : Nat => s.heap.size ≤ q) q := fun _ h => h
  have hbA : ¬ (fun q : Nat => s.heap.size ≤ q) b := Nat.not_le.mpr hbl
  refine lv_aload_n hx hb dL_law_551 rfl (lv_at hl 2 rfl) ?_
  refine lv_aload_n hx hb dL_law_552 rfl (lv_at hl 3 rfl) ?_
  refine lv_iload_n hx hb dL_law_553 rfl (lv_at hl 0 rfl) ?_
  refine lv_iconst (v := 1) hx hb dL_law_554 (by decide) ?_
  refine lv_iadd hx hb dL_law_555 ?_
  refine lv_topi (fun x_1 ex_1 => ?_)
  have vx_1 := b_add (rfl : i.toInt = _) (by decide : (1 : Int32).toInt = 1) ex_1 (by omega) (by omega)
  refine va_sld hx hb hX hbl hbA hS (i_in (by omega) (by omega)) dL_law_556 ?_
  refine tp_i (w := xs (i.toInt.toNat + 1)) (by rw [show x_1.toNatClampNeg = i.toInt.toNat + 1 from (by have hn : x_1.toNatClampNeg = x_1.toInt.toNat := rfl; omega)]) ?_
  refine lv_aload_n hx hb dL_law_557 rfl (lv_at hl 3 rfl) ?_
  refine lv_iload_n hx hb dL_law_558 rfl (lv_at hl 0 rfl) ?_
  refine lv_iconst (v := 2) hx hb dL_law_559 (by decide) ?_
  refine lv_iadd hx hb dL_law_560 ?_
  refine lv_topi (fun x_2 ex_2 => ?_)
  have vx_2 := b_add (rfl : i.toInt = _) (by decide : (2 : Int32).toInt = 2) ex_2 (by omega) (by omega)
  refine va_sld hx hb hX hbl hbA hS (i_in (by omega) (by omega)) dL_law_561 ?_
  refine tp_i (w := xs (i.toInt.toNat + 2)) (by rw [show x_2.toNatClampNeg = i.toInt.toNat + 2 from (by have hn : x_2.toNatClampNeg = x_2.toInt.toNat := rfl; omega)]) ?_
  refine t_ci (va_runV (As := [.int (xs (i.toInt.toNat + 1)), .int (xs (i.toInt.toNat + 2))]) (rest := []) ⟨hx, hb, hml, hown, hts⟩ (cy_X11_sell l D cA L T r hG hLA.1 σ ρ hB.2.1 _ qx mqx tqx (xs (i.toInt.toNat + 1)) (xs (i.toInt.toNat + 2))) (cV hts mv_X11_sell mw_4_178 rfl rfl ⟨Nat.le_of_ble_eq_true rfl, Nat.le_of_ble_eq_true rfl⟩) (pV hB.1 hK hN mqx tqx (show shp cA 11 _ _ _ = .inr (11, Fs11 _ _ _) from rfl) rfl) rfl rfl hl.1 rfl (lv_room (Nat.le_of_ble_eq_true rfl)) dL_law_562 ⟨Nat.le_of_ble_eq_true rfl, Nat.le_of_ble_eq_true rfl⟩) hLA hA hB hS (by decide) (fun x_5 σ_3 ρ_4 H locs hB fσ_3 pσ_3 hS => ?_)
  have hI_6 : LI σ_3 qx bw w0 w1 w2 w3 qm bg bk bc bx bi bf := LI.fr hLG hI fσ_3 (by decide)
  refine lv_pop hx hb dL_law_565 rfl ?_
  refine lv_aload_n hx hb dL_law_566 rfl (lv_at hl 1 rfl) ?_
  refine lv_aload_n hx hb dL_law_567 rfl (lv_at hl 3 rfl) ?_
  refine lv_iload_n hx hb dL_law_568 rfl (lv_at hl 0 rfl) ?_
  refine lv_iconst (v := 1) hx hb dL_law_569 (by decide) ?_
  refine lv_iadd hx hb dL_law_570 ?_
  refine lv_topi (fun x_7 ex_7 => ?_)
  have vx_7 := b_add (rfl : i.toInt = _) (by decide : (1 : Int32).toInt = 1) ex_7 (by omega) (by omega)
  refine va_sld hx hb hX hbl hbA hS (i_in (by omega) (by omega)) dL_law_571 ?_
  refine tp_i (w := xs (i.toInt.toNat + 1)) (by rw [show x_7.toNatClampNeg = i.toInt.toNat + 1 from (by have hn : x_7.toNatClampNeg = x_7.toInt.toNat := rfl; omega)]) ?_
  refine lv_aload_n hx hb dL_law_572 rfl (lv_at hl 3 rfl) ?_
  refine lv_iload_n hx hb dL_law_573 rfl (lv_at hl 0 rfl) ?_
  refine lv_iconst (v := 2) hx hb dL_law_574 (by decide) ?_
  refine lv_iadd hx hb dL_law_575 ?_
  refine lv_topi (fun x_8 ex_8 => ?_)
  have vx_8 := b_add (rfl : i.toInt = _) (by decide : (2 : Int32).toInt = 2) ex_8 (by omega) (by omega)
  refine va_sld hx hb hX hbl hbA hS (i_in (by omega) (by omega)) dL_law_576 ?_
  refine tp_i (w := xs (i.toInt.toNat + 2)) (by rw [show x_8.toNatClampNeg = i.toInt.toNat + 2 from (by have hn : x_8.toNatClampNeg = x_8.toInt.toNat := rfl; omega)]) ?_
  refine t_ci (va_runV (As := [.int (xs (i.toInt.toNat + 1)), .int (xs (i.toInt.toNat + 2))]) (rest := []) ⟨hx, hb, hml, hown, hts⟩ (cy_X12_sell l D cA L T r hG hLA.1 σ_3 ρ_4 hB.2.1 _ qm mqm tqm (xs (i.toInt.toNat + 1)) (xs (i.toInt.toNat + 2))) (cV hts mv_X12_sell mw_7_198 rfl rfl ⟨Nat.le_of_ble_eq_true rfl, Nat.le_of_ble_eq_true rfl⟩) (pV hB.1 hK hN mqm tqm (show shp cA 12 _ _ _ = .inr (12, Fs12 _ _ _) from rfl) rfl) rfl rfl hl.1 rfl (lv_room (Nat.le_of_ble_eq_true rfl)) dL_law_577 ⟨Nat.le_of_ble_eq_true rfl, Nat.le_of_ble_eq_true rfl⟩) hLA hA hB hS (by decide) (fun x_11 σ_9 ρ_10 H locs hB fσ_9 pσ_9 hS => ?_)
  have hI_12 : LI σ_9 qx bw w0 w1 w2 w3 qm bg bk bc bx bi bf := LI.fr hLG hI_6 fσ_9 (by decide)
  refine lv_pop hx hb dL_law_580 rfl ?_
  refine lv_goto (tgt := 1240) hx hb dL_law_581 (by decide) ?_
  exact kk _ _ _ _ hB hI_12 hS
theorem mw_4_191 : (.instanceMethod yX11_hand : Cond) ∈ wsA := wsA_t (List.mem_append_right _ (List.mem_append_right _ (List.mem_append_right _ (List.mem_append_left _ (List.mem_of_getElem? (l := tables_1_4) (i := 191) rfl))))) rfl
theorem mw_4_192 : (.selects RX11 yX11_hand yX11_hand : Cond) ∈ wsA := wsA_t (List.mem_append_right _ (List.mem_append_right _ (List.mem_append_right _ (List.mem_append_left _ (List.mem_of_getElem? (l := tables_1_4) (i := 192) rfl))))) rfl
theorem mw_4_193 : (.code yX11_hand cX11_hand 5 (some .int) : Cond) ∈ wsA := wsA_t (List.mem_append_right _ (List.mem_append_right _ (List.mem_append_right _ (List.mem_append_left _ (List.mem_of_getElem? (l := tables_1_4) (i := 193) rfl))))) rfl
theorem mw_4_190 : (.methodLink RL 73 yX11_hand : Cond) ∈ wsA := wsA_t (List.mem_append_right _ (List.mem_append_right _ (List.mem_append_right _ (List.mem_append_left _ (List.mem_of_getElem? (l := tables_1_4) (i := 190) rfl))))) rfl
theorem mw_7_203 : (.instanceMethod yX12_hand : Cond) ∈ wsA := wsA_t (List.mem_append_right _ (List.mem_append_right _ (List.mem_append_right _ (List.mem_append_right _ (List.mem_append_right _ (List.mem_append_right _ (List.mem_append_left _ (List.mem_of_getElem? (l := tables_1_7) (i := 203) rfl)))))))) rfl
theorem mw_7_204 : (.selects RX12 yX12_hand yX12_hand : Cond) ∈ wsA := wsA_t (List.mem_append_right _ (List.mem_append_right _ (List.mem_append_right _ (List.mem_append_right _ (List.mem_append_right _ (List.mem_append_right _ (List.mem_append_left _ (List.mem_of_getElem? (l := tables_1_7) (i := 204) rfl)))))))) rfl
theorem mw_7_205 : (.code yX12_hand cX12_hand 4 (some .int) : Cond) ∈ wsA := wsA_t (List.mem_append_right _ (List.mem_append_right _ (List.mem_append_right _ (List.mem_append_right _ (List.mem_append_right _ (List.mem_append_right _ (List.mem_append_left _ (List.mem_of_getElem? (l := tables_1_7) (i := 205) rfl)))))))) rfl
theorem mw_7_202 : (.methodLink RL 77 yX12_hand : Cond) ∈ wsA := wsA_t (List.mem_append_right _ (List.mem_append_right _ (List.mem_append_right _ (List.mem_append_right _ (List.mem_append_right _ (List.mem_append_right _ (List.mem_append_left _ (List.mem_of_getElem? (l := tables_1_7) (i := 202) rfl)))))))) rfl
theorem dL_law_584 : decode cL_law 584 = .ok (.aload_n 1, 1) := by decide +kernel
theorem dL_law_585 : decode cL_law 585 = .ok (.aload_n 0, 1) := by decide +kernel
theorem dL_law_586 : decode cL_law 586 = .ok (.iload_n 3, 1) := by decide +kernel
theorem dL_law_587 : decode cL_law 587 = .ok (.iconst 1, 1) := by decide +kernel
theorem dL_law_588 : decode cL_law 588 = .ok (.iadd, 1) := by decide +kernel
theorem dL_law_589 : decode cL_law 589 = .ok (.iaload, 1) := by decide +kernel
theorem dL_law_590 : decode cL_law 590 = .ok (.aload_n 0, 1) := by decide +kernel
theorem dL_law_591 : decode cL_law 591 = .ok (.iload_n 3, 1) := by decide +kernel
theorem dL_law_592 : decode cL_law 592 = .ok (.iconst 2, 1) := by decide +kernel
theorem dL_law_593 : decode cL_law 593 = .ok (.iadd, 1) := by decide +kernel
theorem dL_law_594 : decode cL_law 594 = .ok (.iaload, 1) := by decide +kernel
theorem dL_law_595 : decode cL_law 595 = .ok (.aload_n 0, 1) := by decide +kernel
theorem dL_law_596 : decode cL_law 596 = .ok (.iload_n 3, 1) := by decide +kernel
theorem dL_law_597 : decode cL_law 597 = .ok (.iconst 3, 1) := by decide +kernel
theorem dL_law_598 : decode cL_law 598 = .ok (.iadd, 1) := by decide +kernel
theorem dL_law_599 : decode cL_law 599 = .ok (.iaload, 1) := by decide +kernel
theorem dL_law_600 : decode cL_law 600 = .ok (.invokevirtual 73, 3) := by decide +kernel
theorem dL_law_603 : decode cL_law 603 = .ok (.pop, 1) := by decide +kernel
theorem dL_law_604 : decode cL_law 604 = .ok (.aload_n 2, 1) := by decide +kernel
theorem dL_law_605 : decode cL_law 605 = .ok (.aload_n 0, 1) := by decide +kernel
theorem dL_law_606 : decode cL_law 606 = .ok (.iload_n 3, 1) := by decide +kernel
theorem dL_law_607 : decode cL_law 607 = .ok (.iconst 1, 1) := by decide +kernel
theorem dL_law_608 : decode cL_law 608 = .ok (.iadd, 1) := by decide +kernel
theorem dL_law_609 : decode cL_law 609 = .ok (.iaload, 1) := by decide +kernel
theorem dL_law_610 : decode cL_law 610 = .ok (.aload_n 0, 1) := by decide +kernel
theorem dL_law_611 : decode cL_law 611 = .ok (.iload_n 3, 1) := by decide +kernel
theorem dL_law_612 : decode cL_law 612 = .ok (.iconst 2, 1) := by decide +kernel
theorem dL_law_613 : decode cL_law 613 = .ok (.iadd, 1) := by decide +kernel
theorem dL_law_614 : decode cL_law 614 = .ok (.iaload, 1) := by decide +kernel
theorem dL_law_615 : decode cL_law 615 = .ok (.aload_n 0, 1) := by decide +kernel
theorem dL_law_616 : decode cL_law 616 = .ok (.iload_n 3, 1) := by decide +kernel
theorem dL_law_617 : decode cL_law 617 = .ok (.iconst 3, 1) := by decide +kernel
theorem dL_law_618 : decode cL_law 618 = .ok (.iadd, 1) := by decide +kernel
theorem dL_law_619 : decode cL_law 619 = .ok (.iaload, 1) := by decide +kernel
theorem dL_law_620 : decode cL_law 620 = .ok (.invokevirtual 77, 3) := by decide +kernel
theorem dL_law_623 : decode cL_law 623 = .ok (.pop, 1) := by decide +kernel
theorem dL_law_624 : decode cL_law 624 = .ok (.goto 616, 3) := by decide +kernel
theorem mv_X11_hand : MV RX11 yX11_hand cX11_hand 5 (some .int) 3 := ⟨mw_4_191, mw_4_192, mw_1_1, mw_4_193, ⟨rfl, by decide, by decide, by decide +kernel⟩⟩
theorem mv_X12_hand : MV RX12 yX12_hand cX12_hand 4 (some .int) 3 := ⟨mw_7_203, mw_7_204, mw_1_13, mw_7_205, ⟨rfl, by decide, by decide, by decide +kernel⟩⟩
set_option maxHeartbeats 4000000 in
set_option maxRecDepth 100000 in
theorem law_c14 {p : Program} {e : Env} {s : State} {m : MethodId} {below : List Frame} {meth : Method} {c : Code} (l : Launch) {b Ls : Nat} {xs : Nat → Int32} (hLs : Ls ≤ 3072) (hx : p.tables.exec = Jvm.exec) (hb : c.code = code) (hr : meth.sig.returnType = ret) (hml : c.maxLocals = 4) (hown : s.vm.findClass RL = some m.cls) (hts : ∀ w ∈ wsA, w.before #[Value.ref b] s = true) (hX : va_X b Ls xs s s.heap) (hbl : b < s.heap.size) (hlocks : meth.locks = false) (D : va_G) (cA : Nat → ClassId) (hK : va_K D vwCl (tyA cA) s) (hN : NW s) (adK adV : Nat → Nat) (L : List Nat) (T : Nat → Nat) (r : Rg) (hLA : LA (fun q : Nat => s.heap.size ≤ q) L) (hG : GR L T r) (hV : SWL adK adV L s) (qx : Nat) (mqx : qx ∈ L) (tqx : T qx = 11) (bw : Nat) (mbw : bw ∈ L) (tbw : T bw = 10) (w0 : Nat) (mw0 : w0 ∈ L) (tw0 : T w0 = 13) (w1 : Nat) (mw1 : w1 ∈ L) (tw1 : T w1 = 14) (w2 : Nat) (mw2 : w2 ∈ L) (tw2 : T w2 = 15) (w3 : Nat) (mw3 : w3 ∈ L) (tw3 : T w3 = 16) (qm : Nat) (mqm : qm ∈ L) (tqm : T qm = 12) (bg : Nat) (mbg : bg ∈ L) (tbg : T bg = 62) (bk : Nat) (mbk : bk ∈ L) (tbk : T bk = 64) (bc : Nat) (mbc : bc ∈ L) (tbc : T bc = 65) (bx : Nat) (mbx : bx ∈ L) (tbx : T bx = 84) (bi : Nat) (mbi : bi ∈ L) (tbi : T bi = 85) (bf : Nat) (mbf : bf ∈ L) (tbf : T bf = 83) (ba : Nat) (mba : ba ∈ L) (tba : T ba = 60) (hbw : r qx 3 = some bw) (hba : r qx 4 = some ba) (hbg : r qm 3 = some bg) (hbk : r qm 5 = some bk) (hbc : r qm 6 = some bc) (hbx : r qm 42 = some bx) (hbi : r qm 43 = some bi) (hbf : r qm 41 = some bf) (hw0 : r ba 0 = some w0) (hw1 : r ba 1 = some w1) (hw2 : r ba 2 = some w2) (hw3 : r ba 3 = some w3) (hLG : LG T qx bw w0 w1 w2 w3 qm bg bk bc bx bi bf) (i : Int32) (li : 0 ≤ i.toInt) (ui : i.toInt ≤ 3066) (vi : i.toInt + 6 ≤ Ls) (σ0 σ : Sg) (ρ : Lg) (H : Heap) (hB : TS D cA L T r ry msL σ0 σ ρ H) (hI : LI σ qx bw w0 w1 w2 w3 qm bg bk bc bx bi bf) (locs : List Loc) (hS : va_S (fun q : Nat => s.heap.size ≤ q) s.heap H locs) (ls : Array Slot) (hl : lv_has ls 4 [(3, .int i), (2, .ref qm), (1, .ref qx), (0, .ref b)]) (kk : ∀ (σ2 : Sg) (ρ2 : Lg) (H : Heap) (locs : List Loc), TS D cA L T r ry msL σ0 σ2 ρ2 H → LI σ2 qx bw w0 w1 w2 w3 qm bg bk bc bx bi bf → va_S (fun q : Nat => s.heap.size ≤ q) s.heap H locs → W p l e room_1 s m #[Value.ref b] below meth c H locs 378 16064 (lw_Z below #[Value.ref b] s) (F0 m 1240 ls [])) : W p l e room_1 s m #[Value.ref b] below meth c H locs 378 16064 (lw_Z below #[Value.ref b] s) (F0 m 584 ls []) := by
  have hA : ∀ q : Nat, s.heap.size ≤ q → (fun q : Nat => s.heap.size ≤ q) q := fun _ h => h
  have hbA : ¬ (fun q : Nat => s.heap.size ≤ q) b := Nat.not_le.mpr hbl
  refine lv_aload_n hx hb dL_law_584 rfl (lv_at hl 2 rfl) ?_
  refine lv_aload_n hx hb dL_law_585 rfl (lv_at hl 3 rfl) ?_
  refine lv_iload_n hx hb dL_law_586 rfl (lv_at hl 0 rfl) ?_
  refine lv_iconst (v := 1) hx hb dL_law_587 (by decide) ?_
  refine lv_iadd hx hb dL_law_588 ?_
  refine lv_topi (fun x_1 ex_1 => ?_)
  have vx_1 := b_add (rfl : i.toInt = _) (by decide : (1 : Int32).toInt = 1) ex_1 (by omega) (by omega)
  refine va_sld hx hb hX hbl hbA hS (i_in (by omega) (by omega)) dL_law_589 ?_
  refine tp_i (w := xs (i.toInt.toNat + 1)) (by rw [show x_1.toNatClampNeg = i.toInt.toNat + 1 from (by have hn : x_1.toNatClampNeg = x_1.toInt.toNat := rfl; omega)]) ?_
  refine lv_aload_n hx hb dL_law_590 rfl (lv_at hl 3 rfl) ?_
  refine lv_iload_n hx hb dL_law_591 rfl (lv_at hl 0 rfl) ?_
  refine lv_iconst (v := 2) hx hb dL_law_592 (by decide) ?_
  refine lv_iadd hx hb dL_law_593 ?_
  refine lv_topi (fun x_2 ex_2 => ?_)
  have vx_2 := b_add (rfl : i.toInt = _) (by decide : (2 : Int32).toInt = 2) ex_2 (by omega) (by omega)
  refine va_sld hx hb hX hbl hbA hS (i_in (by omega) (by omega)) dL_law_594 ?_
  refine tp_i (w := xs (i.toInt.toNat + 2)) (by rw [show x_2.toNatClampNeg = i.toInt.toNat + 2 from (by have hn : x_2.toNatClampNeg = x_2.toInt.toNat := rfl; omega)]) ?_
  refine lv_aload_n hx hb dL_law_595 rfl (lv_at hl 3 rfl) ?_
  refine lv_iload_n hx hb dL_law_596 rfl (lv_at hl 0 rfl) ?_
  refine lv_iconst (v := 3) hx hb dL_law_597 (by decide) ?_
  refine lv_iadd hx hb dL_law_598 ?_
  refine lv_topi (fun x_3 ex_3 => ?_)
  have vx_3 := b_add (rfl : i.toInt = _) (by decide : (3 : Int32).toInt = 3) ex_3 (by omega) (by omega)
  refine va_sld hx hb hX hbl hbA hS (i_in (by omega) (by omega)) dL_law_599 ?_
  refine tp_i (w := xs (i.toInt.toNat + 3)) (by rw [show x_3.toNatClampNeg = i.toInt.toNat + 3 from (by have hn : x_3.toNatClampNeg = x_3.toInt.toNat := rfl; omega)]) ?_
  refine t_ci (va_runV (As := [.int (xs (i.toInt.toNat + 1)), .int (xs (i.toInt.toNat + 2)), .int (xs (i.toInt.toNat + 3))]) (rest := []) ⟨hx, hb, hml, hown, hts⟩ (cy_X11_hand l D cA L T r hG hLA.1 σ ρ hB.2.1 _ qx mqx tqx (xs (i.toInt.toNat + 1)) (xs (i.toInt.toNat + 2)) (xs (i.toInt.toNat + 3))) (cV hts mv_X11_hand mw_4_190 rfl rfl ⟨Nat.le_of_ble_eq_true rfl, Nat.le_of_ble_eq_true rfl⟩) (pV hB.1 hK hN mqx tqx (show shp cA 11 _ _ _ = .inr (11, Fs11 _ _ _) from rfl) rfl) rfl rfl hl.1 rfl (lv_room (Nat.le_of_ble_eq_true rfl)) dL_law_600 ⟨Nat.le_of_ble_eq_true rfl, Nat.le_of_ble_eq_true rfl⟩) hLA hA hB hS (by decide) (fun x_6 σ_4 ρ_5 H locs hB fσ_4 pσ_4 hS => ?_)
  have hI_7 : LI σ_4 qx bw w0 w1 w2 w3 qm bg bk bc bx bi bf := LI.fr hLG hI fσ_4 (by decide)
  refine lv_pop hx hb dL_law_603 rfl ?_
  refine lv_aload_n hx hb dL_law_604 rfl (lv_at hl 1 rfl) ?_
  refine lv_aload_n hx hb dL_law_605 rfl (lv_at hl 3 rfl) ?_
  refine lv_iload_n hx hb dL_law_606 rfl (lv_at hl 0 rfl) ?_
  refine lv_iconst (v := 1) hx hb dL_law_607 (by decide) ?_
  refine lv_iadd hx hb dL_law_608 ?_
  refine lv_topi (fun x_8 ex_8 => ?_)
  have vx_8 := b_add (rfl : i.toInt = _) (by decide : (1 : Int32).toInt = 1) ex_8 (by omega) (by omega)
  refine va_sld hx hb hX hbl hbA hS (i_in (by omega) (by omega)) dL_law_609 ?_
  refine tp_i (w := xs (i.toInt.toNat + 1)) (by rw [show x_8.toNatClampNeg = i.toInt.toNat + 1 from (by have hn : x_8.toNatClampNeg = x_8.toInt.toNat := rfl; omega)]) ?_
  refine lv_aload_n hx hb dL_law_610 rfl (lv_at hl 3 rfl) ?_
  refine lv_iload_n hx hb dL_law_611 rfl (lv_at hl 0 rfl) ?_
  refine lv_iconst (v := 2) hx hb dL_law_612 (by decide) ?_
  refine lv_iadd hx hb dL_law_613 ?_
  refine lv_topi (fun x_9 ex_9 => ?_)
  have vx_9 := b_add (rfl : i.toInt = _) (by decide : (2 : Int32).toInt = 2) ex_9 (by omega) (by omega)
  refine va_sld hx hb hX hbl hbA hS (i_in (by omega) (by omega)) dL_law_614 ?_
  refine tp_i (w := xs (i.toInt.toNat + 2)) (by rw [show x_9.toNatClampNeg = i.toInt.toNat + 2 from (by have hn : x_9.toNatClampNeg = x_9.toInt.toNat := rfl; omega)]) ?_
  refine lv_aload_n hx hb dL_law_615 rfl (lv_at hl 3 rfl) ?_
  refine lv_iload_n hx hb dL_law_616 rfl (lv_at hl 0 rfl) ?_
  refine lv_iconst (v := 3) hx hb dL_law_617 (by decide) ?_
  refine lv_iadd hx hb dL_law_618 ?_
  refine lv_topi (fun x_10 ex_10 => ?_)
  have vx_10 := b_add (rfl : i.toInt = _) (by decide : (3 : Int32).toInt = 3) ex_10 (by omega) (by omega)
  refine va_sld hx hb hX hbl hbA hS (i_in (by omega) (by omega)) dL_law_619 ?_
  refine tp_i (w := xs (i.toInt.toNat + 3)) (by rw [show x_10.toNatClampNeg = i.toInt.toNat + 3 from (by have hn : x_10.toNatClampNeg = x_10.toInt.toNat := rfl; omega)]) ?_
  refine t_ci (va_runV (As := [.int (xs (i.toInt.toNat + 1)), .int (xs (i.toInt.toNat + 2)), .int (xs (i.toInt.toNat + 3))]) (rest := []) ⟨hx, hb, hml, hown, hts⟩ (cy_X12_hand l D cA L T r hG hLA.1 σ_4 ρ_5 hB.2.1 _ qm mqm tqm (xs (i.toInt.toNat + 1)) (xs (i.toInt.toNat + 2)) (xs (i.toInt.toNat + 3))) (cV hts mv_X12_hand mw_7_202 rfl rfl ⟨Nat.le_of_ble_eq_true rfl, Nat.le_of_ble_eq_true rfl⟩) (pV hB.1 hK hN mqm tqm (show shp cA 12 _ _ _ = .inr (12, Fs12 _ _ _) from rfl) rfl) rfl rfl hl.1 rfl (lv_room (Nat.le_of_ble_eq_true rfl)) dL_law_620 ⟨Nat.le_of_ble_eq_true rfl, Nat.le_of_ble_eq_true rfl⟩) hLA hA hB hS (by decide) (fun x_13 σ_11 ρ_12 H locs hB fσ_11 pσ_11 hS => ?_)
  have hI_14 : LI σ_11 qx bw w0 w1 w2 w3 qm bg bk bc bx bi bf := LI.fr hLG hI_7 fσ_11 (by decide)
  refine lv_pop hx hb dL_law_623 rfl ?_
  refine lv_goto (tgt := 1240) hx hb dL_law_624 (by decide) ?_
  exact kk _ _ _ _ hB hI_14 hS
theorem mw_4_200 : (.instanceMethod yX11_undo : Cond) ∈ wsA := wsA_t (List.mem_append_right _ (List.mem_append_right _ (List.mem_append_right _ (List.mem_append_left _ (List.mem_of_getElem? (l := tables_1_4) (i := 200) rfl))))) rfl
theorem mw_4_201 : (.selects RX11 yX11_undo yX11_undo : Cond) ∈ wsA := wsA_t (List.mem_append_right _ (List.mem_append_right _ (List.mem_append_right _ (List.mem_append_left _ (List.mem_of_getElem? (l := tables_1_4) (i := 201) rfl))))) rfl
theorem mw_4_202 : (.code yX11_undo cX11_undo 1 (some .int) : Cond) ∈ wsA := wsA_t (List.mem_append_right _ (List.mem_append_right _ (List.mem_append_right _ (List.mem_append_left _ (List.mem_of_getElem? (l := tables_1_4) (i := 202) rfl))))) rfl
theorem mw_4_199 : (.methodLink RL 78 yX11_undo : Cond) ∈ wsA := wsA_t (List.mem_append_right _ (List.mem_append_right _ (List.mem_append_right _ (List.mem_append_left _ (List.mem_of_getElem? (l := tables_1_4) (i := 199) rfl))))) rfl
theorem mw_7_116 : (.instanceMethod yX12_undo : Cond) ∈ wsA := wsA_t (List.mem_append_right _ (List.mem_append_right _ (List.mem_append_right _ (List.mem_append_right _ (List.mem_append_right _ (List.mem_append_right _ (List.mem_append_left _ (List.mem_of_getElem? (l := tables_1_7) (i := 116) rfl)))))))) rfl
theorem mw_7_117 : (.selects RX12 yX12_undo yX12_undo : Cond) ∈ wsA := wsA_t (List.mem_append_right _ (List.mem_append_right _ (List.mem_append_right _ (List.mem_append_right _ (List.mem_append_right _ (List.mem_append_right _ (List.mem_append_left _ (List.mem_of_getElem? (l := tables_1_7) (i := 117) rfl)))))))) rfl
theorem mw_7_118 : (.code yX12_undo cX12_undo 2 (some .int) : Cond) ∈ wsA := wsA_t (List.mem_append_right _ (List.mem_append_right _ (List.mem_append_right _ (List.mem_append_right _ (List.mem_append_right _ (List.mem_append_right _ (List.mem_append_left _ (List.mem_of_getElem? (l := tables_1_7) (i := 118) rfl)))))))) rfl
theorem mw_7_115 : (.methodLink RL 81 yX12_undo : Cond) ∈ wsA := wsA_t (List.mem_append_right _ (List.mem_append_right _ (List.mem_append_right _ (List.mem_append_right _ (List.mem_append_right _ (List.mem_append_right _ (List.mem_append_left _ (List.mem_of_getElem? (l := tables_1_7) (i := 115) rfl)))))))) rfl
theorem dL_law_627 : decode cL_law 627 = .ok (.aload_n 1, 1) := by decide +kernel
theorem dL_law_628 : decode cL_law 628 = .ok (.invokevirtual 78, 3) := by decide +kernel
theorem dL_law_631 : decode cL_law 631 = .ok (.pop, 1) := by decide +kernel
theorem dL_law_632 : decode cL_law 632 = .ok (.aload_n 2, 1) := by decide +kernel
theorem dL_law_633 : decode cL_law 633 = .ok (.invokevirtual 81, 3) := by decide +kernel
theorem dL_law_636 : decode cL_law 636 = .ok (.pop, 1) := by decide +kernel
theorem dL_law_637 : decode cL_law 637 = .ok (.goto 603, 3) := by decide +kernel
theorem mv_X11_undo : MV RX11 yX11_undo cX11_undo 1 (some .int) 0 := ⟨mw_4_200, mw_4_201, mw_1_1, mw_4_202, ⟨rfl, by decide, by decide, by decide +kernel⟩⟩
theorem mv_X12_undo : MV RX12 yX12_undo cX12_undo 2 (some .int) 0 := ⟨mw_7_116, mw_7_117, mw_1_13, mw_7_118, ⟨rfl, by decide, by decide, by decide +kernel⟩⟩
set_option maxHeartbeats 4000000 in
set_option maxRecDepth 100000 in
theorem law_c15 {p : Program} {e : Env} {s : State} {m : MethodId} {below : List Frame} {meth : Method} {c : Code} (l : Launch) {b Ls : Nat} {xs : Nat → Int32} (hLs : Ls ≤ 3072) (hx : p.tables.exec = Jvm.exec) (hb : c.code = code) (hr : meth.sig.returnType = ret) (hml : c.maxLocals = 4) (hown : s.vm.findClass RL = some m.cls) (hts : ∀ w ∈ wsA, w.before #[Value.ref b] s = true) (hX : va_X b Ls xs s s.heap) (hbl : b < s.heap.size) (hlocks : meth.locks = false) (D : va_G) (cA : Nat → ClassId) (hK : va_K D vwCl (tyA cA) s) (hN : NW s) (adK adV : Nat → Nat) (L : List Nat) (T : Nat → Nat) (r : Rg) (hLA : LA (fun q : Nat => s.heap.size ≤ q) L) (hG : GR L T r) (hV : SWL adK adV L s) (qx : Nat) (mqx : qx ∈ L) (tqx : T qx = 11) (bw : Nat) (mbw : bw ∈ L) (tbw : T bw = 10) (w0 : Nat) (mw0 : w0 ∈ L) (tw0 : T w0 = 13) (w1 : Nat) (mw1 : w1 ∈ L) (tw1 : T w1 = 14) (w2 : Nat) (mw2 : w2 ∈ L) (tw2 : T w2 = 15) (w3 : Nat) (mw3 : w3 ∈ L) (tw3 : T w3 = 16) (qm : Nat) (mqm : qm ∈ L) (tqm : T qm = 12) (bg : Nat) (mbg : bg ∈ L) (tbg : T bg = 62) (bk : Nat) (mbk : bk ∈ L) (tbk : T bk = 64) (bc : Nat) (mbc : bc ∈ L) (tbc : T bc = 65) (bx : Nat) (mbx : bx ∈ L) (tbx : T bx = 84) (bi : Nat) (mbi : bi ∈ L) (tbi : T bi = 85) (bf : Nat) (mbf : bf ∈ L) (tbf : T bf = 83) (ba : Nat) (mba : ba ∈ L) (tba : T ba = 60) (hbw : r qx 3 = some bw) (hba : r qx 4 = some ba) (hbg : r qm 3 = some bg) (hbk : r qm 5 = some bk) (hbc : r qm 6 = some bc) (hbx : r qm 42 = some bx) (hbi : r qm 43 = some bi) (hbf : r qm 41 = some bf) (hw0 : r ba 0 = some w0) (hw1 : r ba 1 = some w1) (hw2 : r ba 2 = some w2) (hw3 : r ba 3 = some w3) (hLG : LG T qx bw w0 w1 w2 w3 qm bg bk bc bx bi bf) (i : Int32) (li : 0 ≤ i.toInt) (ui : i.toInt ≤ 3066) (vi : i.toInt + 6 ≤ Ls) (σ0 σ : Sg) (ρ : Lg) (H : Heap) (hB : TS D cA L T r ry msL σ0 σ ρ H) (hI : LI σ qx bw w0 w1 w2 w3 qm bg bk bc bx bi bf) (locs : List Loc) (hS : va_S (fun q : Nat => s.heap.size ≤ q) s.heap H locs) (ls : Array Slot) (hl : lv_has ls 4 [(3, .int i), (2, .ref qm), (1, .ref qx), (0, .ref b)]) (kk : ∀ (σ2 : Sg) (ρ2 : Lg) (H : Heap) (locs : List Loc), TS D cA L T r ry msL σ0 σ2 ρ2 H → LI σ2 qx bw w0 w1 w2 w3 qm bg bk bc bx bi bf → va_S (fun q : Nat => s.heap.size ≤ q) s.heap H locs → W p l e room_1 s m #[Value.ref b] below meth c H locs 378 16064 (lw_Z below #[Value.ref b] s) (F0 m 1240 ls [])) : W p l e room_1 s m #[Value.ref b] below meth c H locs 378 16064 (lw_Z below #[Value.ref b] s) (F0 m 627 ls []) := by
  have hA : ∀ q : Nat, s.heap.size ≤ q → (fun q : Nat => s.heap.size ≤ q) q := fun _ h => h
  have hbA : ¬ (fun q : Nat => s.heap.size ≤ q) b := Nat.not_le.mpr hbl
  refine lv_aload_n hx hb dL_law_627 rfl (lv_at hl 2 rfl) ?_
  refine t_ci (va_runV (As := []) (rest := []) ⟨hx, hb, hml, hown, hts⟩ (cy_X11_undo l D cA L T r hG hLA.1 σ ρ hB.2.1 _ qx mqx tqx) (cV hts mv_X11_undo mw_4_199 rfl rfl ⟨Nat.le_of_ble_eq_true rfl, Nat.le_of_ble_eq_true rfl⟩) (pV hB.1 hK hN mqx tqx (show shp cA 11 _ _ _ = .inr (11, Fs11 _ _ _) from rfl) rfl) rfl rfl hl.1 rfl (lv_room (Nat.le_of_ble_eq_true rfl)) dL_law_628 ⟨Nat.le_of_ble_eq_true rfl, Nat.le_of_ble_eq_true rfl⟩) hLA hA hB hS (by decide) (fun x_3 σ_1 ρ_2 H locs hB fσ_1 pσ_1 hS => ?_)
  have hI_4 : LI σ_1 qx bw w0 w1 w2 w3 qm bg bk bc bx bi bf := LI.fr hLG hI fσ_1 (by decide)
  refine lv_pop hx hb dL_law_631 rfl ?_
  refine lv_aload_n hx hb dL_law_632 rfl (lv_at hl 1 rfl) ?_
  refine t_ci (va_runV (As := []) (rest := []) ⟨hx, hb, hml, hown, hts⟩ (cy_X12_undo l D cA L T r hG hLA.1 σ_1 ρ_2 hB.2.1 _ qm mqm tqm) (cV hts mv_X12_undo mw_7_115 rfl rfl ⟨Nat.le_of_ble_eq_true rfl, Nat.le_of_ble_eq_true rfl⟩) (pV hB.1 hK hN mqm tqm (show shp cA 12 _ _ _ = .inr (12, Fs12 _ _ _) from rfl) rfl) rfl rfl hl.1 rfl (lv_room (Nat.le_of_ble_eq_true rfl)) dL_law_633 ⟨Nat.le_of_ble_eq_true rfl, Nat.le_of_ble_eq_true rfl⟩) hLA hA hB hS (by decide) (fun x_7 σ_5 ρ_6 H locs hB fσ_5 pσ_5 hS => ?_)
  have hI_8 : LI σ_5 qx bw w0 w1 w2 w3 qm bg bk bc bx bi bf := LI.fr hLG hI_4 fσ_5 (by decide)
  refine lv_pop hx hb dL_law_636 rfl ?_
  refine lv_goto (tgt := 1240) hx hb dL_law_637 (by decide) ?_
  exact kk _ _ _ _ hB hI_8 hS
theorem mw_4_208 : (.instanceMethod yX11_reach : Cond) ∈ wsA := wsA_t (List.mem_append_right _ (List.mem_append_right _ (List.mem_append_right _ (List.mem_append_left _ (List.mem_of_getElem? (l := tables_1_4) (i := 208) rfl))))) rfl
theorem mw_4_209 : (.selects RX11 yX11_reach yX11_reach : Cond) ∈ wsA := wsA_t (List.mem_append_right _ (List.mem_append_right _ (List.mem_append_right _ (List.mem_append_left _ (List.mem_of_getElem? (l := tables_1_4) (i := 209) rfl))))) rfl
theorem mw_4_210 : (.code yX11_reach cX11_reach 4 (some .int) : Cond) ∈ wsA := wsA_t (List.mem_append_right _ (List.mem_append_right _ (List.mem_append_right _ (List.mem_append_left _ (List.mem_of_getElem? (l := tables_1_4) (i := 210) rfl))))) rfl
theorem mw_4_207 : (.methodLink RL 82 yX11_reach : Cond) ∈ wsA := wsA_t (List.mem_append_right _ (List.mem_append_right _ (List.mem_append_right _ (List.mem_append_left _ (List.mem_of_getElem? (l := tables_1_4) (i := 207) rfl))))) rfl
theorem mw_7_207 : (.instanceMethod yX12_reach : Cond) ∈ wsA := wsA_t (List.mem_append_right _ (List.mem_append_right _ (List.mem_append_right _ (List.mem_append_right _ (List.mem_append_right _ (List.mem_append_right _ (List.mem_append_left _ (List.mem_of_getElem? (l := tables_1_7) (i := 207) rfl)))))))) rfl
theorem mw_7_208 : (.selects RX12 yX12_reach yX12_reach : Cond) ∈ wsA := wsA_t (List.mem_append_right _ (List.mem_append_right _ (List.mem_append_right _ (List.mem_append_right _ (List.mem_append_right _ (List.mem_append_right _ (List.mem_append_left _ (List.mem_of_getElem? (l := tables_1_7) (i := 208) rfl)))))))) rfl
theorem mw_7_209 : (.code yX12_reach cX12_reach 4 (some .int) : Cond) ∈ wsA := wsA_t (List.mem_append_right _ (List.mem_append_right _ (List.mem_append_right _ (List.mem_append_right _ (List.mem_append_right _ (List.mem_append_right _ (List.mem_append_left _ (List.mem_of_getElem? (l := tables_1_7) (i := 209) rfl)))))))) rfl
theorem mw_7_206 : (.methodLink RL 85 yX12_reach : Cond) ∈ wsA := wsA_t (List.mem_append_right _ (List.mem_append_right _ (List.mem_append_right _ (List.mem_append_right _ (List.mem_append_right _ (List.mem_append_right _ (List.mem_append_left _ (List.mem_of_getElem? (l := tables_1_7) (i := 206) rfl)))))))) rfl
theorem dL_law_640 : decode cL_law 640 = .ok (.aload_n 1, 1) := by decide +kernel
theorem dL_law_641 : decode cL_law 641 = .ok (.aload_n 0, 1) := by decide +kernel
theorem dL_law_642 : decode cL_law 642 = .ok (.iload_n 3, 1) := by decide +kernel
theorem dL_law_643 : decode cL_law 643 = .ok (.iconst 1, 1) := by decide +kernel
theorem dL_law_644 : decode cL_law 644 = .ok (.iadd, 1) := by decide +kernel
theorem dL_law_645 : decode cL_law 645 = .ok (.iaload, 1) := by decide +kernel
theorem dL_law_646 : decode cL_law 646 = .ok (.aload_n 0, 1) := by decide +kernel
theorem dL_law_647 : decode cL_law 647 = .ok (.iload_n 3, 1) := by decide +kernel
theorem dL_law_648 : decode cL_law 648 = .ok (.iconst 2, 1) := by decide +kernel
theorem dL_law_649 : decode cL_law 649 = .ok (.iadd, 1) := by decide +kernel
theorem dL_law_650 : decode cL_law 650 = .ok (.iaload, 1) := by decide +kernel
theorem dL_law_651 : decode cL_law 651 = .ok (.invokevirtual 82, 3) := by decide +kernel
theorem dL_law_654 : decode cL_law 654 = .ok (.pop, 1) := by decide +kernel
theorem dL_law_655 : decode cL_law 655 = .ok (.aload_n 2, 1) := by decide +kernel
theorem dL_law_656 : decode cL_law 656 = .ok (.aload_n 0, 1) := by decide +kernel
theorem dL_law_657 : decode cL_law 657 = .ok (.iload_n 3, 1) := by decide +kernel
theorem dL_law_658 : decode cL_law 658 = .ok (.iconst 1, 1) := by decide +kernel
theorem dL_law_659 : decode cL_law 659 = .ok (.iadd, 1) := by decide +kernel
theorem dL_law_660 : decode cL_law 660 = .ok (.iaload, 1) := by decide +kernel
theorem dL_law_661 : decode cL_law 661 = .ok (.aload_n 0, 1) := by decide +kernel
theorem dL_law_662 : decode cL_law 662 = .ok (.iload_n 3, 1) := by decide +kernel
theorem dL_law_663 : decode cL_law 663 = .ok (.iconst 2, 1) := by decide +kernel
theorem dL_law_664 : decode cL_law 664 = .ok (.iadd, 1) := by decide +kernel
theorem dL_law_665 : decode cL_law 665 = .ok (.iaload, 1) := by decide +kernel
theorem dL_law_666 : decode cL_law 666 = .ok (.invokevirtual 85, 3) := by decide +kernel
theorem dL_law_669 : decode cL_law 669 = .ok (.pop, 1) := by decide +kernel
theorem dL_law_670 : decode cL_law 670 = .ok (.goto 570, 3) := by decide +kernel
theorem mv_X11_reach : MV RX11 yX11_reach cX11_reach 4 (some .int) 2 := ⟨mw_4_208, mw_4_209, mw_1_1, mw_4_210, ⟨rfl, by decide, by decide, by decide +kernel⟩⟩
theorem mv_X12_reach : MV RX12 yX12_reach cX12_reach 4 (some .int) 2 := ⟨mw_7_207, mw_7_208, mw_1_13, mw_7_209, ⟨rfl, by decide, by decide, by decide +kernel⟩⟩
set_option maxHeartbeats 4000000 in
set_option maxRecDepth 100000 in
theorem law_c16 {p : Program} {e : Env} {s : State} {m : MethodId} {below : List Frame} {meth : Method} {c : Code} (l : Launch) {b Ls : Nat} {xs : Nat → Int32} (hLs : Ls ≤ 3072) (hx : p.tables.exec = Jvm.exec) (hb : c.code = code) (hr : meth.sig.returnType = ret) (hml : c.maxLocals = 4) (hown : s.vm.findClass RL = some m.cls) (hts : ∀ w ∈ wsA, w.before #[Value.ref b] s = true) (hX : va_X b Ls xs s s.heap) (hbl : b < s.heap.size) (hlocks : meth.locks = false) (D : va_G) (cA : Nat → ClassId) (hK : va_K D vwCl (tyA cA) s) (hN : NW s) (adK adV : Nat → Nat) (L : List Nat) (T : Nat → Nat) (r : Rg) (hLA : LA (fun q : Nat => s.heap.size ≤ q) L) (hG : GR L T r) (hV : SWL adK adV L s) (qx : Nat) (mqx : qx ∈ L) (tqx : T qx = 11) (bw : Nat) (mbw : bw ∈ L) (tbw : T bw = 10) (w0 : Nat) (mw0 : w0 ∈ L) (tw0 : T w0 = 13) (w1 : Nat) (mw1 : w1 ∈ L) (tw1 : T w1 = 14) (w2 : Nat) (mw2 : w2 ∈ L) (tw2 : T w2 = 15) (w3 : Nat) (mw3 : w3 ∈ L) (tw3 : T w3 = 16) (qm : Nat) (mqm : qm ∈ L) (tqm : T qm = 12) (bg : Nat) (mbg : bg ∈ L) (tbg : T bg = 62) (bk : Nat) (mbk : bk ∈ L) (tbk : T bk = 64) (bc : Nat) (mbc : bc ∈ L) (tbc : T bc = 65) (bx : Nat) (mbx : bx ∈ L) (tbx : T bx = 84) (bi : Nat) (mbi : bi ∈ L) (tbi : T bi = 85) (bf : Nat) (mbf : bf ∈ L) (tbf : T bf = 83) (ba : Nat) (mba : ba ∈ L) (tba : T ba = 60) (hbw : r qx 3 = some bw) (hba : r qx 4 = some ba) (hbg : r qm 3 = some bg) (hbk : r qm 5 = some bk) (hbc : r qm 6 = some bc) (hbx : r qm 42 = some bx) (hbi : r qm 43 = some bi) (hbf : r qm 41 = some bf) (hw0 : r ba 0 = some w0) (hw1 : r ba 1 = some w1) (hw2 : r ba 2 = some w2) (hw3 : r ba 3 = some w3) (hLG : LG T qx bw w0 w1 w2 w3 qm bg bk bc bx bi bf) (i : Int32) (li : 0 ≤ i.toInt) (ui : i.toInt ≤ 3066) (vi : i.toInt + 6 ≤ Ls) (σ0 σ : Sg) (ρ : Lg) (H : Heap) (hB : TS D cA L T r ry msL σ0 σ ρ H) (hI : LI σ qx bw w0 w1 w2 w3 qm bg bk bc bx bi bf) (locs : List Loc) (hS : va_S (fun q : Nat => s.heap.size ≤ q) s.heap H locs) (ls : Array Slot) (hl : lv_has ls 4 [(3, .int i), (2, .ref qm), (1, .ref qx), (0, .ref b)]) (kk : ∀ (σ2 : Sg) (ρ2 : Lg) (H : Heap) (locs : List Loc), TS D cA L T r ry msL σ0 σ2 ρ2 H → LI σ2 qx bw w0 w1 w2 w3 qm bg bk bc bx bi bf → va_S (fun q : Nat => s.heap.size ≤ q) s.heap H locs → W p l e room_1 s m #[Value.ref b] below meth c H locs 378 16064 (lw_Z below #[Value.ref b] s) (F0 m 1240 ls [])) : W p l e room_1 s m #[Value.ref b] below meth c H locs 378 16064 (lw_Z below #[Value.ref b] s) (F0 m 640 ls []) := by
  have hA : ∀ q : Nat, s.heap.size ≤ q → (fun q : Nat => s.heap.size ≤ q) q := fun _ h => h
  have hbA : ¬ (fun q : Nat => s.heap.size ≤ q) b := Nat.not_le.mpr hbl
  refine lv_aload_n hx hb dL_law_640 rfl (lv_at hl 2 rfl) ?_
  refine lv_aload_n hx hb dL_law_641 rfl (lv_at hl 3 rfl) ?_
  refine lv_iload_n hx hb dL_law_642 rfl (lv_at hl 0 rfl) ?_
  refine lv_iconst (v := 1) hx hb dL_law_643 (by decide) ?_
  refine lv_iadd hx hb dL_law_644 ?_
  refine lv_topi (fun x_1 ex_1 => ?_)
  have vx_1 := b_add (rfl : i.toInt = _) (by decide : (1 : Int32).toInt = 1) ex_1 (by omega) (by omega)
  refine va_sld hx hb hX hbl hbA hS (i_in (by omega) (by omega)) dL_law_645 ?_
  refine tp_i (w := xs (i.toInt.toNat + 1)) (by rw [show x_1.toNatClampNeg = i.toInt.toNat + 1 from (by have hn : x_1.toNatClampNeg = x_1.toInt.toNat := rfl; omega)]) ?_
  refine lv_aload_n hx hb dL_law_646 rfl (lv_at hl 3 rfl) ?_
  refine lv_iload_n hx hb dL_law_647 rfl (lv_at hl 0 rfl) ?_
  refine lv_iconst (v := 2) hx hb dL_law_648 (by decide) ?_
  refine lv_iadd hx hb dL_law_649 ?_
  refine lv_topi (fun x_2 ex_2 => ?_)
  have vx_2 := b_add (rfl : i.toInt = _) (by decide : (2 : Int32).toInt = 2) ex_2 (by omega) (by omega)
  refine va_sld hx hb hX hbl hbA hS (i_in (by omega) (by omega)) dL_law_650 ?_
  refine tp_i (w := xs (i.toInt.toNat + 2)) (by rw [show x_2.toNatClampNeg = i.toInt.toNat + 2 from (by have hn : x_2.toNatClampNeg = x_2.toInt.toNat := rfl; omega)]) ?_
  refine t_ci (va_runV (As := [.int (xs (i.toInt.toNat + 1)), .int (xs (i.toInt.toNat + 2))]) (rest := []) ⟨hx, hb, hml, hown, hts⟩ (cy_X11_reach l D cA L T r hG hLA.1 σ ρ hB.2.1 _ qx mqx tqx (xs (i.toInt.toNat + 1)) (xs (i.toInt.toNat + 2))) (cV hts mv_X11_reach mw_4_207 rfl rfl ⟨Nat.le_of_ble_eq_true rfl, Nat.le_of_ble_eq_true rfl⟩) (pV hB.1 hK hN mqx tqx (show shp cA 11 _ _ _ = .inr (11, Fs11 _ _ _) from rfl) rfl) rfl rfl hl.1 rfl (lv_room (Nat.le_of_ble_eq_true rfl)) dL_law_651 ⟨Nat.le_of_ble_eq_true rfl, Nat.le_of_ble_eq_true rfl⟩) hLA hA hB hS (by decide) (fun x_5 σ_3 ρ_4 H locs hB fσ_3 pσ_3 hS => ?_)
  have hI_6 : LI σ_3 qx bw w0 w1 w2 w3 qm bg bk bc bx bi bf := LI.fr hLG hI fσ_3 (by decide)
  refine lv_pop hx hb dL_law_654 rfl ?_
  refine lv_aload_n hx hb dL_law_655 rfl (lv_at hl 1 rfl) ?_
  refine lv_aload_n hx hb dL_law_656 rfl (lv_at hl 3 rfl) ?_
  refine lv_iload_n hx hb dL_law_657 rfl (lv_at hl 0 rfl) ?_
  refine lv_iconst (v := 1) hx hb dL_law_658 (by decide) ?_
  refine lv_iadd hx hb dL_law_659 ?_
  refine lv_topi (fun x_7 ex_7 => ?_)
  have vx_7 := b_add (rfl : i.toInt = _) (by decide : (1 : Int32).toInt = 1) ex_7 (by omega) (by omega)
  refine va_sld hx hb hX hbl hbA hS (i_in (by omega) (by omega)) dL_law_660 ?_
  refine tp_i (w := xs (i.toInt.toNat + 1)) (by rw [show x_7.toNatClampNeg = i.toInt.toNat + 1 from (by have hn : x_7.toNatClampNeg = x_7.toInt.toNat := rfl; omega)]) ?_
  refine lv_aload_n hx hb dL_law_661 rfl (lv_at hl 3 rfl) ?_
  refine lv_iload_n hx hb dL_law_662 rfl (lv_at hl 0 rfl) ?_
  refine lv_iconst (v := 2) hx hb dL_law_663 (by decide) ?_
  refine lv_iadd hx hb dL_law_664 ?_
  refine lv_topi (fun x_8 ex_8 => ?_)
  have vx_8 := b_add (rfl : i.toInt = _) (by decide : (2 : Int32).toInt = 2) ex_8 (by omega) (by omega)
  refine va_sld hx hb hX hbl hbA hS (i_in (by omega) (by omega)) dL_law_665 ?_
  refine tp_i (w := xs (i.toInt.toNat + 2)) (by rw [show x_8.toNatClampNeg = i.toInt.toNat + 2 from (by have hn : x_8.toNatClampNeg = x_8.toInt.toNat := rfl; omega)]) ?_
  refine t_ci (va_runV (As := [.int (xs (i.toInt.toNat + 1)), .int (xs (i.toInt.toNat + 2))]) (rest := []) ⟨hx, hb, hml, hown, hts⟩ (cy_X12_reach l D cA L T r hG hLA.1 σ_3 ρ_4 hB.2.1 _ qm mqm tqm (xs (i.toInt.toNat + 1)) (xs (i.toInt.toNat + 2))) (cV hts mv_X12_reach mw_7_206 rfl rfl ⟨Nat.le_of_ble_eq_true rfl, Nat.le_of_ble_eq_true rfl⟩) (pV hB.1 hK hN mqm tqm (show shp cA 12 _ _ _ = .inr (12, Fs12 _ _ _) from rfl) rfl) rfl rfl hl.1 rfl (lv_room (Nat.le_of_ble_eq_true rfl)) dL_law_666 ⟨Nat.le_of_ble_eq_true rfl, Nat.le_of_ble_eq_true rfl⟩) hLA hA hB hS (by decide) (fun x_11 σ_9 ρ_10 H locs hB fσ_9 pσ_9 hS => ?_)
  have hI_12 : LI σ_9 qx bw w0 w1 w2 w3 qm bg bk bc bx bi bf := LI.fr hLG hI_6 fσ_9 (by decide)
  refine lv_pop hx hb dL_law_669 rfl ?_
  refine lv_goto (tgt := 1240) hx hb dL_law_670 (by decide) ?_
  exact kk _ _ _ _ hB hI_12 hS
theorem mw_4_225 : (.instanceMethod yX11_lacks : Cond) ∈ wsA := wsA_t (List.mem_append_right _ (List.mem_append_right _ (List.mem_append_right _ (List.mem_append_left _ (List.mem_of_getElem? (l := tables_1_4) (i := 225) rfl))))) rfl
theorem mw_4_226 : (.selects RX11 yX11_lacks yX11_lacks : Cond) ∈ wsA := wsA_t (List.mem_append_right _ (List.mem_append_right _ (List.mem_append_right _ (List.mem_append_left _ (List.mem_of_getElem? (l := tables_1_4) (i := 226) rfl))))) rfl
theorem mw_4_227 : (.code yX11_lacks cX11_lacks 3 (some .int) : Cond) ∈ wsA := wsA_t (List.mem_append_right _ (List.mem_append_right _ (List.mem_append_right _ (List.mem_append_left _ (List.mem_of_getElem? (l := tables_1_4) (i := 227) rfl))))) rfl
theorem mw_4_224 : (.methodLink RL 86 yX11_lacks : Cond) ∈ wsA := wsA_t (List.mem_append_right _ (List.mem_append_right _ (List.mem_append_right _ (List.mem_append_left _ (List.mem_of_getElem? (l := tables_1_4) (i := 224) rfl))))) rfl
theorem mw_7_211 : (.instanceMethod yX12_lacks : Cond) ∈ wsA := wsA_t (List.mem_append_right _ (List.mem_append_right _ (List.mem_append_right _ (List.mem_append_right _ (List.mem_append_right _ (List.mem_append_right _ (List.mem_append_left _ (List.mem_of_getElem? (l := tables_1_7) (i := 211) rfl)))))))) rfl
theorem mw_7_212 : (.selects RX12 yX12_lacks yX12_lacks : Cond) ∈ wsA := wsA_t (List.mem_append_right _ (List.mem_append_right _ (List.mem_append_right _ (List.mem_append_right _ (List.mem_append_right _ (List.mem_append_right _ (List.mem_append_left _ (List.mem_of_getElem? (l := tables_1_7) (i := 212) rfl)))))))) rfl
theorem mw_7_213 : (.code yX12_lacks cX12_lacks 4 (some .int) : Cond) ∈ wsA := wsA_t (List.mem_append_right _ (List.mem_append_right _ (List.mem_append_right _ (List.mem_append_right _ (List.mem_append_right _ (List.mem_append_right _ (List.mem_append_left _ (List.mem_of_getElem? (l := tables_1_7) (i := 213) rfl)))))))) rfl
theorem mw_7_210 : (.methodLink RL 89 yX12_lacks : Cond) ∈ wsA := wsA_t (List.mem_append_right _ (List.mem_append_right _ (List.mem_append_right _ (List.mem_append_right _ (List.mem_append_right _ (List.mem_append_right _ (List.mem_append_left _ (List.mem_of_getElem? (l := tables_1_7) (i := 210) rfl)))))))) rfl
theorem dL_law_673 : decode cL_law 673 = .ok (.aload_n 1, 1) := by decide +kernel
theorem dL_law_674 : decode cL_law 674 = .ok (.aload_n 0, 1) := by decide +kernel
theorem dL_law_675 : decode cL_law 675 = .ok (.iload_n 3, 1) := by decide +kernel
theorem dL_law_676 : decode cL_law 676 = .ok (.iconst 1, 1) := by decide +kernel
theorem dL_law_677 : decode cL_law 677 = .ok (.iadd, 1) := by decide +kernel
theorem dL_law_678 : decode cL_law 678 = .ok (.iaload, 1) := by decide +kernel
theorem dL_law_679 : decode cL_law 679 = .ok (.aload_n 0, 1) := by decide +kernel
theorem dL_law_680 : decode cL_law 680 = .ok (.iload_n 3, 1) := by decide +kernel
theorem dL_law_681 : decode cL_law 681 = .ok (.iconst 2, 1) := by decide +kernel
theorem dL_law_682 : decode cL_law 682 = .ok (.iadd, 1) := by decide +kernel
theorem dL_law_683 : decode cL_law 683 = .ok (.iaload, 1) := by decide +kernel
theorem dL_law_684 : decode cL_law 684 = .ok (.invokevirtual 86, 3) := by decide +kernel
theorem dL_law_687 : decode cL_law 687 = .ok (.pop, 1) := by decide +kernel
theorem dL_law_688 : decode cL_law 688 = .ok (.aload_n 2, 1) := by decide +kernel
theorem dL_law_689 : decode cL_law 689 = .ok (.aload_n 0, 1) := by decide +kernel
theorem dL_law_690 : decode cL_law 690 = .ok (.iload_n 3, 1) := by decide +kernel
theorem dL_law_691 : decode cL_law 691 = .ok (.iconst 1, 1) := by decide +kernel
theorem dL_law_692 : decode cL_law 692 = .ok (.iadd, 1) := by decide +kernel
theorem dL_law_693 : decode cL_law 693 = .ok (.iaload, 1) := by decide +kernel
theorem dL_law_694 : decode cL_law 694 = .ok (.aload_n 0, 1) := by decide +kernel
theorem dL_law_695 : decode cL_law 695 = .ok (.iload_n 3, 1) := by decide +kernel
theorem dL_law_696 : decode cL_law 696 = .ok (.iconst 2, 1) := by decide +kernel
theorem dL_law_697 : decode cL_law 697 = .ok (.iadd, 1) := by decide +kernel
theorem dL_law_698 : decode cL_law 698 = .ok (.iaload, 1) := by decide +kernel
theorem dL_law_699 : decode cL_law 699 = .ok (.invokevirtual 89, 3) := by decide +kernel
theorem dL_law_702 : decode cL_law 702 = .ok (.pop, 1) := by decide +kernel
theorem dL_law_703 : decode cL_law 703 = .ok (.goto 537, 3) := by decide +kernel
theorem mv_X11_lacks : MV RX11 yX11_lacks cX11_lacks 3 (some .int) 2 := ⟨mw_4_225, mw_4_226, mw_1_1, mw_4_227, ⟨rfl, by decide, by decide, by decide +kernel⟩⟩
theorem mv_X12_lacks : MV RX12 yX12_lacks cX12_lacks 4 (some .int) 2 := ⟨mw_7_211, mw_7_212, mw_1_13, mw_7_213, ⟨rfl, by decide, by decide, by decide +kernel⟩⟩
set_option maxHeartbeats 4000000 in
set_option maxRecDepth 100000 in
theorem law_c17 {p : Program} {e : Env} {s : State} {m : MethodId} {below : List Frame} {meth : Method} {c : Code} (l : Launch) {b Ls : Nat} {xs : Nat → Int32} (hLs : Ls ≤ 3072) (hx : p.tables.exec = Jvm.exec) (hb : c.code = code) (hr : meth.sig.returnType = ret) (hml : c.maxLocals = 4) (hown : s.vm.findClass RL = some m.cls) (hts : ∀ w ∈ wsA, w.before #[Value.ref b] s = true) (hX : va_X b Ls xs s s.heap) (hbl : b < s.heap.size) (hlocks : meth.locks = false) (D : va_G) (cA : Nat → ClassId) (hK : va_K D vwCl (tyA cA) s) (hN : NW s) (adK adV : Nat → Nat) (L : List Nat) (T : Nat → Nat) (r : Rg) (hLA : LA (fun q : Nat => s.heap.size ≤ q) L) (hG : GR L T r) (hV : SWL adK adV L s) (qx : Nat) (mqx : qx ∈ L) (tqx : T qx = 11) (bw : Nat) (mbw : bw ∈ L) (tbw : T bw = 10) (w0 : Nat) (mw0 : w0 ∈ L) (tw0 : T w0 = 13) (w1 : Nat) (mw1 : w1 ∈ L) (tw1 : T w1 = 14) (w2 : Nat) (mw2 : w2 ∈ L) (tw2 : T w2 = 15) (w3 : Nat) (mw3 : w3 ∈ L) (tw3 : T w3 = 16) (qm : Nat) (mqm : qm ∈ L) (tqm : T qm = 12) (bg : Nat) (mbg : bg ∈ L) (tbg : T bg = 62) (bk : Nat) (mbk : bk ∈ L) (tbk : T bk = 64) (bc : Nat) (mbc : bc ∈ L) (tbc : T bc = 65) (bx : Nat) (mbx : bx ∈ L) (tbx : T bx = 84) (bi : Nat) (mbi : bi ∈ L) (tbi : T bi = 85) (bf : Nat) (mbf : bf ∈ L) (tbf : T bf = 83) (ba : Nat) (mba : ba ∈ L) (tba : T ba = 60) (hbw : r qx 3 = some bw) (hba : r qx 4 = some ba) (hbg : r qm 3 = some bg) (hbk : r qm 5 = some bk) (hbc : r qm 6 = some bc) (hbx : r qm 42 = some bx) (hbi : r qm 43 = some bi) (hbf : r qm 41 = some bf) (hw0 : r ba 0 = some w0) (hw1 : r ba 1 = some w1) (hw2 : r ba 2 = some w2) (hw3 : r ba 3 = some w3) (hLG : LG T qx bw w0 w1 w2 w3 qm bg bk bc bx bi bf) (i : Int32) (li : 0 ≤ i.toInt) (ui : i.toInt ≤ 3066) (vi : i.toInt + 6 ≤ Ls) (σ0 σ : Sg) (ρ : Lg) (H : Heap) (hB : TS D cA L T r ry msL σ0 σ ρ H) (hI : LI σ qx bw w0 w1 w2 w3 qm bg bk bc bx bi bf) (locs : List Loc) (hS : va_S (fun q : Nat => s.heap.size ≤ q) s.heap H locs) (ls : Array Slot) (hl : lv_has ls 4 [(3, .int i), (2, .ref qm), (1, .ref qx), (0, .ref b)]) (kk : ∀ (σ2 : Sg) (ρ2 : Lg) (H : Heap) (locs : List Loc), TS D cA L T r ry msL σ0 σ2 ρ2 H → LI σ2 qx bw w0 w1 w2 w3 qm bg bk bc bx bi bf → va_S (fun q : Nat => s.heap.size ≤ q) s.heap H locs → W p l e room_1 s m #[Value.ref b] below meth c H locs 378 16064 (lw_Z below #[Value.ref b] s) (F0 m 1240 ls [])) : W p l e room_1 s m #[Value.ref b] below meth c H locs 378 16064 (lw_Z below #[Value.ref b] s) (F0 m 673 ls []) := by
  have hA : ∀ q : Nat, s.heap.size ≤ q → (fun q : Nat => s.heap.size ≤ q) q := fun _ h => h
  have hbA : ¬ (fun q : Nat => s.heap.size ≤ q) b := Nat.not_le.mpr hbl
  refine lv_aload_n hx hb dL_law_673 rfl (lv_at hl 2 rfl) ?_
  refine lv_aload_n hx hb dL_law_674 rfl (lv_at hl 3 rfl) ?_
  refine lv_iload_n hx hb dL_law_675 rfl (lv_at hl 0 rfl) ?_
  refine lv_iconst (v := 1) hx hb dL_law_676 (by decide) ?_
  refine lv_iadd hx hb dL_law_677 ?_
  refine lv_topi (fun x_1 ex_1 => ?_)
  have vx_1 := b_add (rfl : i.toInt = _) (by decide : (1 : Int32).toInt = 1) ex_1 (by omega) (by omega)
  refine va_sld hx hb hX hbl hbA hS (i_in (by omega) (by omega)) dL_law_678 ?_
  refine tp_i (w := xs (i.toInt.toNat + 1)) (by rw [show x_1.toNatClampNeg = i.toInt.toNat + 1 from (by have hn : x_1.toNatClampNeg = x_1.toInt.toNat := rfl; omega)]) ?_
  refine lv_aload_n hx hb dL_law_679 rfl (lv_at hl 3 rfl) ?_
  refine lv_iload_n hx hb dL_law_680 rfl (lv_at hl 0 rfl) ?_
  refine lv_iconst (v := 2) hx hb dL_law_681 (by decide) ?_
  refine lv_iadd hx hb dL_law_682 ?_
  refine lv_topi (fun x_2 ex_2 => ?_)
  have vx_2 := b_add (rfl : i.toInt = _) (by decide : (2 : Int32).toInt = 2) ex_2 (by omega) (by omega)
  refine va_sld hx hb hX hbl hbA hS (i_in (by omega) (by omega)) dL_law_683 ?_
  refine tp_i (w := xs (i.toInt.toNat + 2)) (by rw [show x_2.toNatClampNeg = i.toInt.toNat + 2 from (by have hn : x_2.toNatClampNeg = x_2.toInt.toNat := rfl; omega)]) ?_
  refine t_ci (va_runV (As := [.int (xs (i.toInt.toNat + 1)), .int (xs (i.toInt.toNat + 2))]) (rest := []) ⟨hx, hb, hml, hown, hts⟩ (cy_X11_lacks l D cA L T r hG hLA.1 σ ρ hB.2.1 _ qx mqx tqx (xs (i.toInt.toNat + 1)) (xs (i.toInt.toNat + 2))) (cV hts mv_X11_lacks mw_4_224 rfl rfl ⟨Nat.le_of_ble_eq_true rfl, Nat.le_of_ble_eq_true rfl⟩) (pV hB.1 hK hN mqx tqx (show shp cA 11 _ _ _ = .inr (11, Fs11 _ _ _) from rfl) rfl) rfl rfl hl.1 rfl (lv_room (Nat.le_of_ble_eq_true rfl)) dL_law_684 ⟨Nat.le_of_ble_eq_true rfl, Nat.le_of_ble_eq_true rfl⟩) hLA hA hB hS (by decide) (fun x_5 σ_3 ρ_4 H locs hB fσ_3 pσ_3 hS => ?_)
  have hI_6 : LI σ_3 qx bw w0 w1 w2 w3 qm bg bk bc bx bi bf := LI.fr hLG hI fσ_3 (by decide)
  refine lv_pop hx hb dL_law_687 rfl ?_
  refine lv_aload_n hx hb dL_law_688 rfl (lv_at hl 1 rfl) ?_
  refine lv_aload_n hx hb dL_law_689 rfl (lv_at hl 3 rfl) ?_
  refine lv_iload_n hx hb dL_law_690 rfl (lv_at hl 0 rfl) ?_
  refine lv_iconst (v := 1) hx hb dL_law_691 (by decide) ?_
  refine lv_iadd hx hb dL_law_692 ?_
  refine lv_topi (fun x_7 ex_7 => ?_)
  have vx_7 := b_add (rfl : i.toInt = _) (by decide : (1 : Int32).toInt = 1) ex_7 (by omega) (by omega)
  refine va_sld hx hb hX hbl hbA hS (i_in (by omega) (by omega)) dL_law_693 ?_
  refine tp_i (w := xs (i.toInt.toNat + 1)) (by rw [show x_7.toNatClampNeg = i.toInt.toNat + 1 from (by have hn : x_7.toNatClampNeg = x_7.toInt.toNat := rfl; omega)]) ?_
  refine lv_aload_n hx hb dL_law_694 rfl (lv_at hl 3 rfl) ?_
  refine lv_iload_n hx hb dL_law_695 rfl (lv_at hl 0 rfl) ?_
  refine lv_iconst (v := 2) hx hb dL_law_696 (by decide) ?_
  refine lv_iadd hx hb dL_law_697 ?_
  refine lv_topi (fun x_8 ex_8 => ?_)
  have vx_8 := b_add (rfl : i.toInt = _) (by decide : (2 : Int32).toInt = 2) ex_8 (by omega) (by omega)
  refine va_sld hx hb hX hbl hbA hS (i_in (by omega) (by omega)) dL_law_698 ?_
  refine tp_i (w := xs (i.toInt.toNat + 2)) (by rw [show x_8.toNatClampNeg = i.toInt.toNat + 2 from (by have hn : x_8.toNatClampNeg = x_8.toInt.toNat := rfl; omega)]) ?_
  refine t_ci (va_runV (As := [.int (xs (i.toInt.toNat + 1)), .int (xs (i.toInt.toNat + 2))]) (rest := []) ⟨hx, hb, hml, hown, hts⟩ (cy_X12_lacks l D cA L T r hG hLA.1 σ_3 ρ_4 hB.2.1 _ qm mqm tqm (xs (i.toInt.toNat + 1)) (xs (i.toInt.toNat + 2))) (cV hts mv_X12_lacks mw_7_210 rfl rfl ⟨Nat.le_of_ble_eq_true rfl, Nat.le_of_ble_eq_true rfl⟩) (pV hB.1 hK hN mqm tqm (show shp cA 12 _ _ _ = .inr (12, Fs12 _ _ _) from rfl) rfl) rfl rfl hl.1 rfl (lv_room (Nat.le_of_ble_eq_true rfl)) dL_law_699 ⟨Nat.le_of_ble_eq_true rfl, Nat.le_of_ble_eq_true rfl⟩) hLA hA hB hS (by decide) (fun x_11 σ_9 ρ_10 H locs hB fσ_9 pσ_9 hS => ?_)
  have hI_12 : LI σ_9 qx bw w0 w1 w2 w3 qm bg bk bc bx bi bf := LI.fr hLG hI_6 fσ_9 (by decide)
  refine lv_pop hx hb dL_law_702 rfl ?_
  refine lv_goto (tgt := 1240) hx hb dL_law_703 (by decide) ?_
  exact kk _ _ _ _ hB hI_12 hS
