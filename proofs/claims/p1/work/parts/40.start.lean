/-! THE CLAIM OUT OF ONE WALK OF THE LAW'S BODY. Your part is whole_start (and what it stands on); all else here is the same for every law, but numbers. -/
def R_law : String := "HillBendsLaw"
def lw_P (b : Addr) (xs : List Int32) (args : Array Value) (s : State) : Prop := args = #[.ref b] ∧ s.IntsAt b xs ∧ xs.length ≤ 6 ∧ (Jvm.Cond.and given_1 narrow_1).before args s = true
def lw_Q (_ : Array Value) (s : State) (o : Outcome) (t : State) : Prop := o = .returned (some (.int 1)) ∧ Framed s o t [] 600000 7302250
def lw_Z (below : List Frame) (a : Array Value) (s : State) : State → Prop := fun t => ∃ o, t.status = .running ∧ Ended t below o ∧ lw_Q a s o t
/-- the law's own end, with 1 on the stack, nothing written that was there before, its room as the claim has it -/
theorem lw_ret {p : Program} {l : Launch} {e : Env} {s : State} {m : MethodId} {below : List Frame} {meth : Method} {c : Code} {b : Nat} (hx : p.tables.exec = Jvm.exec) (hb : c.code = code) (hr : meth.sig.returnType = ret) (hlocks : meth.locks = false) {pc : Nat} {H : Heap} {ls : Array Slot} (hdg : decode code pc = .ok (.ireturn, 1)) : W p l e room_1 s m #[Value.ref b] below meth c H [] 600000 7302250 (lw_Z below #[Value.ref b] s) (F0 m pc ls [.int 1]) := by
  intro T hT X
  obtain ⟨fs, hret, hrun, hended, hW, hframe⟩ := X.leave (v := some (.int 1)) (hlocks := hlocks) (fun h => by rw [hr] at h; cases h)
  have hmeth' : T.vm.method? m = some meth := X.method'
  refine ⟨T.setFrames fs, ?_, .returned (some (.int 1)), hrun, hended, rfl, ⟨_, rfl⟩, hW, hframe⟩
  jvm_step X.here [X.here.top, hx, hb, hdg, hmeth', hr, ret, narrow_b1]
  (try refine ⟨rfl, ?_⟩); (try refine ⟨rfl, ?_⟩)
  first | (intro acts; rw [hret _ acts rfl rfl rfl]) | rw [hret _ _ rfl rfl rfl]
  exact Steps.refl _
/-- what holds at the law's entry: the machine, the code, the tables' words (any of lw_tbl by 'hts w (by decide +kernel)'), the script of L ints xs at the cell b, what the Statement gives of the start (any of its parts by flat_of_before) -/
def lw_At (p : Program) (s : State) (m : MethodId) (meth : Method) (c : Code) (b L : Nat) (xs : Nat → Int32) : Prop :=
  p.tables.exec = Jvm.exec ∧ c.code = code ∧ meth.sig.returnType = ret ∧ c.maxLocals = 4 ∧ s.vm.findClass R_law = some m.cls ∧ (∀ w ∈ lw_tbl, w.before #[Value.ref b] s = true) ∧ va_X b L xs s s.heap ∧ b < s.heap.size ∧ meth.locks = false ∧ (Jvm.Cond.and given_1 narrow_1).before #[Value.ref b] s = true
set_option maxHeartbeats 8000000 in
set_option maxRecDepth 100000 in
theorem law_body {p : Program} {e : Env} {s : State} {m : MethodId} {below : List Frame} {meth : Method} {c : Code} (l : Launch) {b Ls : Nat} {xs : Nat → Int32} (hLs : Ls ≤ 6) (hx : p.tables.exec = Jvm.exec) (hb : c.code = code) (hr : meth.sig.returnType = ret) (hml : c.maxLocals = 4) (hown : s.vm.findClass RL = some m.cls) (hts : ∀ w ∈ wsA, w.before #[Value.ref b] s = true) (hX : va_X b Ls xs s s.heap) (hbl : b < s.heap.size) (hlocks : meth.locks = false) (D : va_G) (cA : Nat → ClassId) (hK : va_K D vwCl (tyA cA) s) (hN : NW s) (L : List Nat) (T : Nat → Nat) (r : Rg) (σ : Sg) (ρ : Lg) (H : Heap) (hV : LSS D cA (fun q : Nat => s.heap.size ≤ q) [] L T r σ ρ H) (qx : Nat) (mqx : qx ∈ L) (tqx : T qx = 11) (qm : Nat) (mqm : qm ∈ L) (tqm : T qm = 12) (locs : List Loc) (hS : va_S (fun q : Nat => s.heap.size ≤ q) s.heap H locs) (ls : Array Slot) (hl : lv_has ls 4 [(3, .int 0), (2, .ref qm), (1, .ref qx), (0, .ref b)]) : W p l e room_1 s m #[Value.ref b] below meth c H locs 378 16064 (lw_Z below #[Value.ref b] s) (F0 m 18 ls []) := by
  have hA : ∀ q : Nat, s.heap.size ≤ q → (fun q : Nat => s.heap.size ≤ q) q := fun _ h => h
  have hbA : ¬ (fun q : Nat => s.heap.size ≤ q) b := Nat.not_le.mpr hbl
  have hG := hV.G
  have hZ := hV.Z
  have hLA := hV.2.1
  have hB : TS D cA L T r rz [(3, 6), (3, 7), (3, 8), (3, 9), (3, 10), (4, 1), (7, 4), (7, 5), (7, 6), (7, 7), (8, 6), (8, 7), (9, 4), (9, 5), (9, 6), (10, 6), (10, 7), (10, 8), (11, 11), (12, 1), (12, 8), (12, 9), (12, 11), (12, 12), (12, 14), (12, 21), (12, 22), (33, 1000), (34, 1000), (35, 1000), (36, 1000), (37, 1000), (45, 1000), (46, 1000), (47, 1000), (48, 1000), (49, 1000), (50, 1000), (51, 1000), (52, 1000), (53, 1000), (54, 1000), (55, 1000), (56, 1000), (57, 1000), (58, 1000), (61, 1000), (63, 1000), (65, 1000), (66, 1000), (70, 1000), (82, 1000), (83, 1000), (84, 1000), (85, 1000)] σ σ ρ H := ⟨hV.1, hZ.W, FR.rf⟩
  rcases (show Ls = 0 ∨ Ls = 1 ∨ Ls = 2 ∨ Ls = 3 ∨ Ls = 4 ∨ Ls = 5 ∨ Ls = 6 by omega) with rfl | rfl | rfl | rfl | rfl | rfl | rfl
  · skip
    refine lv_iload_n hx hb dL_law_18 rfl (lv_at hl 0 rfl) ?_
    refine lv_aload_n hx hb dL_law_19 rfl (lv_at hl 3 rfl) ?_
    refine va_slen hx hb hX hbl hbA hS dL_law_20 ?_
    refine tp_i (w := 0) (by decide) ?_
    refine lv_bipush (v := 6) hx hb dL_law_21 (by decide) ?_
    refine lv_isub hx hb dL_law_23 ?_
    refine tp_i (w := (-6)) (by decide) ?_
    refine lv_icmp_gt (tgt := 1246) hx hb dL_law_24 (by decide) (fun _ => ?_) (fun c9 => absurd (by decide) c9)
    refine lv_iconst (v := 1) hx hb dL_law_1246 (by decide) ?_
    refine va_forget hS.2.2 ?_
    refine W.widen (k := 600000) (n := 7302250) (Nat.le_of_ble_eq_true rfl) (Nat.le_of_ble_eq_true rfl) ?_
    exact lw_ret hx hb hr hlocks dL_law_1247
  · skip
    refine lv_iload_n hx hb dL_law_18 rfl (lv_at hl 0 rfl) ?_
    refine lv_aload_n hx hb dL_law_19 rfl (lv_at hl 3 rfl) ?_
    refine va_slen hx hb hX hbl hbA hS dL_law_20 ?_
    refine tp_i (w := 1) (by decide) ?_
    refine lv_bipush (v := 6) hx hb dL_law_21 (by decide) ?_
    refine lv_isub hx hb dL_law_23 ?_
    refine tp_i (w := (-5)) (by decide) ?_
    refine lv_icmp_gt (tgt := 1246) hx hb dL_law_24 (by decide) (fun _ => ?_) (fun c9 => absurd (by decide) c9)
    refine lv_iconst (v := 1) hx hb dL_law_1246 (by decide) ?_
    refine va_forget hS.2.2 ?_
    refine W.widen (k := 600000) (n := 7302250) (Nat.le_of_ble_eq_true rfl) (Nat.le_of_ble_eq_true rfl) ?_
    exact lw_ret hx hb hr hlocks dL_law_1247
  · skip
    refine lv_iload_n hx hb dL_law_18 rfl (lv_at hl 0 rfl) ?_
    refine lv_aload_n hx hb dL_law_19 rfl (lv_at hl 3 rfl) ?_
    refine va_slen hx hb hX hbl hbA hS dL_law_20 ?_
    refine tp_i (w := 2) (by decide) ?_
    refine lv_bipush (v := 6) hx hb dL_law_21 (by decide) ?_
    refine lv_isub hx hb dL_law_23 ?_
    refine tp_i (w := (-4)) (by decide) ?_
    refine lv_icmp_gt (tgt := 1246) hx hb dL_law_24 (by decide) (fun _ => ?_) (fun c9 => absurd (by decide) c9)
    refine lv_iconst (v := 1) hx hb dL_law_1246 (by decide) ?_
    refine va_forget hS.2.2 ?_
    refine W.widen (k := 600000) (n := 7302250) (Nat.le_of_ble_eq_true rfl) (Nat.le_of_ble_eq_true rfl) ?_
    exact lw_ret hx hb hr hlocks dL_law_1247
  · skip
    refine lv_iload_n hx hb dL_law_18 rfl (lv_at hl 0 rfl) ?_
    refine lv_aload_n hx hb dL_law_19 rfl (lv_at hl 3 rfl) ?_
    refine va_slen hx hb hX hbl hbA hS dL_law_20 ?_
    refine tp_i (w := 3) (by decide) ?_
    refine lv_bipush (v := 6) hx hb dL_law_21 (by decide) ?_
    refine lv_isub hx hb dL_law_23 ?_
    refine tp_i (w := (-3)) (by decide) ?_
    refine lv_icmp_gt (tgt := 1246) hx hb dL_law_24 (by decide) (fun _ => ?_) (fun c9 => absurd (by decide) c9)
    refine lv_iconst (v := 1) hx hb dL_law_1246 (by decide) ?_
    refine va_forget hS.2.2 ?_
    refine W.widen (k := 600000) (n := 7302250) (Nat.le_of_ble_eq_true rfl) (Nat.le_of_ble_eq_true rfl) ?_
    exact lw_ret hx hb hr hlocks dL_law_1247
  · skip
    refine lv_iload_n hx hb dL_law_18 rfl (lv_at hl 0 rfl) ?_
    refine lv_aload_n hx hb dL_law_19 rfl (lv_at hl 3 rfl) ?_
    refine va_slen hx hb hX hbl hbA hS dL_law_20 ?_
    refine tp_i (w := 4) (by decide) ?_
    refine lv_bipush (v := 6) hx hb dL_law_21 (by decide) ?_
    refine lv_isub hx hb dL_law_23 ?_
    refine tp_i (w := (-2)) (by decide) ?_
    refine lv_icmp_gt (tgt := 1246) hx hb dL_law_24 (by decide) (fun _ => ?_) (fun c9 => absurd (by decide) c9)
    refine lv_iconst (v := 1) hx hb dL_law_1246 (by decide) ?_
    refine va_forget hS.2.2 ?_
    refine W.widen (k := 600000) (n := 7302250) (Nat.le_of_ble_eq_true rfl) (Nat.le_of_ble_eq_true rfl) ?_
    exact lw_ret hx hb hr hlocks dL_law_1247
  · skip
    refine lv_iload_n hx hb dL_law_18 rfl (lv_at hl 0 rfl) ?_
    refine lv_aload_n hx hb dL_law_19 rfl (lv_at hl 3 rfl) ?_
    refine va_slen hx hb hX hbl hbA hS dL_law_20 ?_
    refine tp_i (w := 5) (by decide) ?_
    refine lv_bipush (v := 6) hx hb dL_law_21 (by decide) ?_
    refine lv_isub hx hb dL_law_23 ?_
    refine tp_i (w := (-1)) (by decide) ?_
    refine lv_icmp_gt (tgt := 1246) hx hb dL_law_24 (by decide) (fun _ => ?_) (fun c9 => absurd (by decide) c9)
    refine lv_iconst (v := 1) hx hb dL_law_1246 (by decide) ?_
    refine va_forget hS.2.2 ?_
    refine W.widen (k := 600000) (n := 7302250) (Nat.le_of_ble_eq_true rfl) (Nat.le_of_ble_eq_true rfl) ?_
    exact lw_ret hx hb hr hlocks dL_law_1247
  · skip
    refine lv_iload_n hx hb dL_law_18 rfl (lv_at hl 0 rfl) ?_
    refine lv_aload_n hx hb dL_law_19 rfl (lv_at hl 3 rfl) ?_
    refine va_slen hx hb hX hbl hbA hS dL_law_20 ?_
    refine tp_i (w := 6) (by decide) ?_
    refine lv_bipush (v := 6) hx hb dL_law_21 (by decide) ?_
    refine lv_isub hx hb dL_law_23 ?_
    refine tp_i (w := 0) (by decide) ?_
    refine lv_icmp_gt (tgt := 1246) hx hb dL_law_24 (by decide) (fun c9 => absurd c9 (by decide)) (fun _ => ?_)
    refine lv_aload_n hx hb dL_law_27 rfl (lv_at hl 3 rfl) ?_
    refine lv_iload_n hx hb dL_law_28 rfl (lv_at hl 0 rfl) ?_
    refine va_sld hx hb hX hbl hbA hS (i_in (by decide) (by decide)) dL_law_29 ?_
    refine tp_i (w := xs 0) rfl ?_
    refine lv_bipush (v := 63) hx hb dL_law_30 (by decide) ?_
    refine lv_iand hx hb dL_law_32 ?_
    refine lv_topi (fun x_1 ex_1 => ?_)
    by_cases c_2 : x_1.toInt < 0 ∨ 35 < x_1.toInt
    · skip
      refine lv_tableOut (tgt := 1240) hx hb dL_law_33 c_2 (by decide) ?_
      refine lv_iinc (v := 6) (lv' := [(3, .int 6), (2, .ref qm), (1, .ref qx), (0, .ref b)]) hx hb dL_law_1240 hl (k := 0) rfl (by decide) (by decide) rfl (fun ls hl => ?_)
      refine lv_goto (tgt := 18) hx hb dL_law_1243 (by decide) ?_
      refine lv_iload_n hx hb dL_law_18 rfl (lv_at hl 0 rfl) ?_
      refine lv_aload_n hx hb dL_law_19 rfl (lv_at hl 3 rfl) ?_
      refine va_slen hx hb hX hbl hbA hS dL_law_20 ?_
      refine tp_i (w := 6) (by decide) ?_
      refine lv_bipush (v := 6) hx hb dL_law_21 (by decide) ?_
      refine lv_isub hx hb dL_law_23 ?_
      refine tp_i (w := 0) (by decide) ?_
      refine lv_icmp_gt (tgt := 1246) hx hb dL_law_24 (by decide) (fun _ => ?_) (fun c9 => absurd (by decide) c9)
      refine lv_iconst (v := 1) hx hb dL_law_1246 (by decide) ?_
      refine va_forget hS.2.2 ?_
      refine W.widen (k := 600000) (n := 7302250) (Nat.le_of_ble_eq_true rfl) (Nat.le_of_ble_eq_true rfl) ?_
      exact lw_ret hx hb hr hlocks dL_law_1247
    · skip
      rcases (show x_1.toInt = 0 ∨ x_1.toInt = 1 ∨ x_1.toInt = 2 ∨ x_1.toInt = 3 ∨ x_1.toInt = 4 ∨ x_1.toInt = 5 ∨ x_1.toInt = 6 ∨ x_1.toInt = 7 ∨ x_1.toInt = 8 ∨ x_1.toInt = 9 ∨ x_1.toInt = 10 ∨ x_1.toInt = 11 ∨ x_1.toInt = 12 ∨ x_1.toInt = 13 ∨ x_1.toInt = 14 ∨ x_1.toInt = 15 ∨ x_1.toInt = 16 ∨ x_1.toInt = 17 ∨ x_1.toInt = 18 ∨ x_1.toInt = 19 ∨ x_1.toInt = 20 ∨ x_1.toInt = 21 ∨ x_1.toInt = 22 ∨ x_1.toInt = 23 ∨ x_1.toInt = 24 ∨ x_1.toInt = 25 ∨ x_1.toInt = 26 ∨ x_1.toInt = 27 ∨ x_1.toInt = 28 ∨ x_1.toInt = 29 ∨ x_1.toInt = 30 ∨ x_1.toInt = 31 ∨ x_1.toInt = 32 ∨ x_1.toInt = 33 ∨ x_1.toInt = 34 ∨ x_1.toInt = 35 by omega) with c_2j | c_2j | c_2j | c_2j | c_2j | c_2j | c_2j | c_2j | c_2j | c_2j | c_2j | c_2j | c_2j | c_2j | c_2j | c_2j | c_2j | c_2j | c_2j | c_2j | c_2j | c_2j | c_2j | c_2j | c_2j | c_2j | c_2j | c_2j | c_2j | c_2j | c_2j | c_2j | c_2j | c_2j | c_2j | c_2j
      · skip
        have c_2x : x_1 = 0 := i_is (by decide) c_2j
        subst c_2x
        refine lv_tableIn (tgt := 192) hx hb dL_law_33 (by decide) (by decide) rfl (by decide) ?_
        refine lv_aload_n hx hb dL_law_192 rfl (lv_at hl 2 rfl) ?_
        refine lv_aload_n hx hb dL_law_193 rfl (lv_at hl 3 rfl) ?_
        refine lv_iload_n hx hb dL_law_194 rfl (lv_at hl 0 rfl) ?_
        refine lv_iconst (v := 1) hx hb dL_law_195 (by decide) ?_
        refine lv_iadd hx hb dL_law_196 ?_
        refine tp_i (w := 1) (by decide) ?_
        refine va_sld hx hb hX hbl hbA hS (i_in (by decide) (by decide)) dL_law_197 ?_
        refine tp_i (w := xs 1) rfl ?_
        refine lv_aload_n hx hb dL_law_198 rfl (lv_at hl 3 rfl) ?_
        refine lv_iload_n hx hb dL_law_199 rfl (lv_at hl 0 rfl) ?_
        refine lv_iconst (v := 2) hx hb dL_law_200 (by decide) ?_
        refine lv_iadd hx hb dL_law_201 ?_
        refine tp_i (w := 2) (by decide) ?_
        refine va_sld hx hb hX hbl hbA hS (i_in (by decide) (by decide)) dL_law_202 ?_
        refine tp_i (w := xs 2) rfl ?_
        refine lv_aload_n hx hb dL_law_203 rfl (lv_at hl 3 rfl) ?_
        refine lv_iload_n hx hb dL_law_204 rfl (lv_at hl 0 rfl) ?_
        refine lv_iconst (v := 3) hx hb dL_law_205 (by decide) ?_
        refine lv_iadd hx hb dL_law_206 ?_
        refine tp_i (w := 3) (by decide) ?_
        refine va_sld hx hb hX hbl hbA hS (i_in (by decide) (by decide)) dL_law_207 ?_
        refine tp_i (w := xs 3) rfl ?_
        refine lv_aload_n hx hb dL_law_208 rfl (lv_at hl 3 rfl) ?_
        refine lv_iload_n hx hb dL_law_209 rfl (lv_at hl 0 rfl) ?_
        refine lv_iconst (v := 4) hx hb dL_law_210 (by decide) ?_
        refine lv_iadd hx hb dL_law_211 ?_
        refine tp_i (w := 4) (by decide) ?_
        refine va_sld hx hb hX hbl hbA hS (i_in (by decide) (by decide)) dL_law_212 ?_
        refine tp_i (w := xs 4) rfl ?_
        refine lv_aload_n hx hb dL_law_213 rfl (lv_at hl 3 rfl) ?_
        refine lv_iload_n hx hb dL_law_214 rfl (lv_at hl 0 rfl) ?_
        refine lv_iconst (v := 5) hx hb dL_law_215 (by decide) ?_
        refine lv_iadd hx hb dL_law_216 ?_
        refine tp_i (w := 5) (by decide) ?_
        refine va_sld hx hb hX hbl hbA hS (i_in (by decide) (by decide)) dL_law_217 ?_
        refine tp_i (w := xs 5) rfl ?_
        refine t_ci (va_runV (As := [.int (xs 1), .int (xs 2), .int (xs 3), .int (xs 4), .int (xs 5)]) (rest := []) ⟨hx, hb, hml, hown, hts⟩ (cz_X11_feed l D cA L T r hG hLA.1 σ ρ hB.2.1 _ qx mqx tqx (xs 1) (xs 2) (xs 3) (xs 4) (xs 5) hZ) (cV hts mv_X11_feed mw_3_4 rfl rfl ⟨Nat.le_of_ble_eq_true rfl, Nat.le_of_ble_eq_true rfl⟩) (pV hB.1 hK hN mqx tqx (show shp cA 11 _ _ _ = .inr (11, Fs11 _ _ _) from rfl) rfl) rfl rfl hl.1 rfl (lv_room (Nat.le_of_ble_eq_true rfl)) dL_law_218 ⟨Nat.le_of_ble_eq_true rfl, Nat.le_of_ble_eq_true rfl⟩) hLA hA hB hS (by decide) (fun x_5 σ_3 ρ_4 H locs hB fσ_3 pσ_3 hS => ?_)
        subst pσ_3
        refine lv_aload_n hx hb dL_law_221 rfl (lv_at hl 1 rfl) ?_
        refine lv_aload_n hx hb dL_law_222 rfl (lv_at hl 3 rfl) ?_
        refine lv_iload_n hx hb dL_law_223 rfl (lv_at hl 0 rfl) ?_
        refine lv_iconst (v := 1) hx hb dL_law_224 (by decide) ?_
        refine lv_iadd hx hb dL_law_225 ?_
        refine tp_i (w := 1) (by decide) ?_
        refine va_sld hx hb hX hbl hbA hS (i_in (by decide) (by decide)) dL_law_226 ?_
        refine tp_i (w := xs 1) rfl ?_
        refine lv_aload_n hx hb dL_law_227 rfl (lv_at hl 3 rfl) ?_
        refine lv_iload_n hx hb dL_law_228 rfl (lv_at hl 0 rfl) ?_
        refine lv_iconst (v := 2) hx hb dL_law_229 (by decide) ?_
        refine lv_iadd hx hb dL_law_230 ?_
        refine tp_i (w := 2) (by decide) ?_
        refine va_sld hx hb hX hbl hbA hS (i_in (by decide) (by decide)) dL_law_231 ?_
        refine tp_i (w := xs 2) rfl ?_
        refine lv_aload_n hx hb dL_law_232 rfl (lv_at hl 3 rfl) ?_
        refine lv_iload_n hx hb dL_law_233 rfl (lv_at hl 0 rfl) ?_
        refine lv_iconst (v := 3) hx hb dL_law_234 (by decide) ?_
        refine lv_iadd hx hb dL_law_235 ?_
        refine tp_i (w := 3) (by decide) ?_
        refine va_sld hx hb hX hbl hbA hS (i_in (by decide) (by decide)) dL_law_236 ?_
        refine tp_i (w := xs 3) rfl ?_
        refine lv_aload_n hx hb dL_law_237 rfl (lv_at hl 3 rfl) ?_
        refine lv_iload_n hx hb dL_law_238 rfl (lv_at hl 0 rfl) ?_
        refine lv_iconst (v := 4) hx hb dL_law_239 (by decide) ?_
        refine lv_iadd hx hb dL_law_240 ?_
        refine tp_i (w := 4) (by decide) ?_
        refine va_sld hx hb hX hbl hbA hS (i_in (by decide) (by decide)) dL_law_241 ?_
        refine tp_i (w := xs 4) rfl ?_
        refine lv_aload_n hx hb dL_law_242 rfl (lv_at hl 3 rfl) ?_
        refine lv_iload_n hx hb dL_law_243 rfl (lv_at hl 0 rfl) ?_
        refine lv_iconst (v := 5) hx hb dL_law_244 (by decide) ?_
        refine lv_iadd hx hb dL_law_245 ?_
        refine tp_i (w := 5) (by decide) ?_
        refine va_sld hx hb hX hbl hbA hS (i_in (by decide) (by decide)) dL_law_246 ?_
        refine tp_i (w := xs 5) rfl ?_
        refine t_ci (va_runV (As := [.int (xs 1), .int (xs 2), .int (xs 3), .int (xs 4), .int (xs 5)]) (rest := [.int 20]) ⟨hx, hb, hml, hown, hts⟩ (cz_X12_feed l D cA L T r hG hLA.1 σ_3 ρ_4 hB.2.1 _ qm mqm tqm (xs 1) (xs 2) (xs 3) (xs 4) (xs 5) (ZM.of hZ fσ_3 (by decide))) (cV hts mv_X12_feed mw_6_110 rfl rfl ⟨Nat.le_of_ble_eq_true rfl, Nat.le_of_ble_eq_true rfl⟩) (pV hB.1 hK hN mqm tqm (show shp cA 12 _ _ _ = .inr (12, Fs12 _ _ _) from rfl) rfl) rfl rfl hl.1 rfl (lv_room (Nat.le_of_ble_eq_true rfl)) dL_law_247 ⟨Nat.le_of_ble_eq_true rfl, Nat.le_of_ble_eq_true rfl⟩) hLA hA hB hS (by decide) (fun x_8 σ_6 ρ_7 H locs hB fσ_6 pσ_6 hS => ?_)
        subst pσ_6
        refine lv_icmp_eq (tgt := 1240) hx hb dL_law_250 (by decide) (fun _ => ?_) (fun c9 => absurd (by decide) c9)
        refine lv_iinc (v := 6) (lv' := [(3, .int 6), (2, .ref qm), (1, .ref qx), (0, .ref b)]) hx hb dL_law_1240 hl (k := 0) rfl (by decide) (by decide) rfl (fun ls hl => ?_)
        refine lv_goto (tgt := 18) hx hb dL_law_1243 (by decide) ?_
        refine lv_iload_n hx hb dL_law_18 rfl (lv_at hl 0 rfl) ?_
        refine lv_aload_n hx hb dL_law_19 rfl (lv_at hl 3 rfl) ?_
        refine va_slen hx hb hX hbl hbA hS dL_law_20 ?_
        refine tp_i (w := 6) (by decide) ?_
        refine lv_bipush (v := 6) hx hb dL_law_21 (by decide) ?_
        refine lv_isub hx hb dL_law_23 ?_
        refine tp_i (w := 0) (by decide) ?_
        refine lv_icmp_gt (tgt := 1246) hx hb dL_law_24 (by decide) (fun _ => ?_) (fun c9 => absurd (by decide) c9)
        refine lv_iconst (v := 1) hx hb dL_law_1246 (by decide) ?_
        refine va_forget hS.2.2 ?_
        refine W.widen (k := 600000) (n := 7302250) (Nat.le_of_ble_eq_true rfl) (Nat.le_of_ble_eq_true rfl) ?_
        exact lw_ret hx hb hr hlocks dL_law_1247
      · skip
        have c_2x : x_1 = 1 := i_is (by decide) c_2j
        subst c_2x
        refine lv_tableIn (tgt := 255) hx hb dL_law_33 (by decide) (by decide) rfl (by decide) ?_
        refine lv_aload_n hx hb dL_law_255 rfl (lv_at hl 2 rfl) ?_
        refine lv_aload_n hx hb dL_law_256 rfl (lv_at hl 3 rfl) ?_
        refine lv_iload_n hx hb dL_law_257 rfl (lv_at hl 0 rfl) ?_
        refine lv_iconst (v := 1) hx hb dL_law_258 (by decide) ?_
        refine lv_iadd hx hb dL_law_259 ?_
        refine tp_i (w := 1) (by decide) ?_
        refine va_sld hx hb hX hbl hbA hS (i_in (by decide) (by decide)) dL_law_260 ?_
        refine tp_i (w := xs 1) rfl ?_
        refine t_ci (va_runV (As := [.int (xs 1)]) (rest := []) ⟨hx, hb, hml, hown, hts⟩ (cz_X11_end l D cA L T r hG hLA.1 σ ρ hB.2.1 _ qx mqx tqx (xs 1) hZ) (cV hts mv_X11_end mw_3_12 rfl rfl ⟨Nat.le_of_ble_eq_true rfl, Nat.le_of_ble_eq_true rfl⟩) (pV hB.1 hK hN mqx tqx (show shp cA 11 _ _ _ = .inr (11, Fs11 _ _ _) from rfl) rfl) rfl rfl hl.1 rfl (lv_room (Nat.le_of_ble_eq_true rfl)) dL_law_261 ⟨Nat.le_of_ble_eq_true rfl, Nat.le_of_ble_eq_true rfl⟩) hLA hA hB hS (by decide) (fun x_11 σ_9 ρ_10 H locs hB fσ_9 pσ_9 hS => ?_)
        refine lv_aload_n hx hb dL_law_264 rfl (lv_at hl 1 rfl) ?_
        refine lv_aload_n hx hb dL_law_265 rfl (lv_at hl 3 rfl) ?_
        refine lv_iload_n hx hb dL_law_266 rfl (lv_at hl 0 rfl) ?_
        refine lv_iconst (v := 1) hx hb dL_law_267 (by decide) ?_
        refine lv_iadd hx hb dL_law_268 ?_
        refine tp_i (w := 1) (by decide) ?_
        refine va_sld hx hb hX hbl hbA hS (i_in (by decide) (by decide)) dL_law_269 ?_
        refine tp_i (w := xs 1) rfl ?_
        refine t_ci (va_runV (As := [.int (xs 1)]) (rest := [.int x_11]) ⟨hx, hb, hml, hown, hts⟩ (cz_X12_end l D cA L T r hG hLA.1 σ_9 ρ_10 hB.2.1 _ qm mqm tqm (xs 1) (ZM.of hZ fσ_9 (by decide))) (cV hts mv_X12_end mw_6_118 rfl rfl ⟨Nat.le_of_ble_eq_true rfl, Nat.le_of_ble_eq_true rfl⟩) (pV hB.1 hK hN mqm tqm (show shp cA 12 _ _ _ = .inr (12, Fs12 _ _ _) from rfl) rfl) rfl rfl hl.1 rfl (lv_room (Nat.le_of_ble_eq_true rfl)) dL_law_270 ⟨Nat.le_of_ble_eq_true rfl, Nat.le_of_ble_eq_true rfl⟩) hLA hA hB hS (by decide) (fun x_14 σ_12 ρ_13 H locs hB fσ_12 pσ_12 hS => ?_)
        refine lv_icmp_eq (tgt := 1240) hx hb dL_law_273 (by decide) (fun _ => ?_) (fun c9 => absurd (pσ_9.trans pσ_12.symm) c9)
        refine lv_iinc (v := 6) (lv' := [(3, .int 6), (2, .ref qm), (1, .ref qx), (0, .ref b)]) hx hb dL_law_1240 hl (k := 0) rfl (by decide) (by decide) rfl (fun ls hl => ?_)
        refine lv_goto (tgt := 18) hx hb dL_law_1243 (by decide) ?_
        refine lv_iload_n hx hb dL_law_18 rfl (lv_at hl 0 rfl) ?_
        refine lv_aload_n hx hb dL_law_19 rfl (lv_at hl 3 rfl) ?_
        refine va_slen hx hb hX hbl hbA hS dL_law_20 ?_
        refine tp_i (w := 6) (by decide) ?_
        refine lv_bipush (v := 6) hx hb dL_law_21 (by decide) ?_
        refine lv_isub hx hb dL_law_23 ?_
        refine tp_i (w := 0) (by decide) ?_
        refine lv_icmp_gt (tgt := 1246) hx hb dL_law_24 (by decide) (fun _ => ?_) (fun c9 => absurd (by decide) c9)
        refine lv_iconst (v := 1) hx hb dL_law_1246 (by decide) ?_
        refine va_forget hS.2.2 ?_
        refine W.widen (k := 600000) (n := 7302250) (Nat.le_of_ble_eq_true rfl) (Nat.le_of_ble_eq_true rfl) ?_
        exact lw_ret hx hb hr hlocks dL_law_1247
      · skip
        have c_2x : x_1 = 2 := i_is (by decide) c_2j
        subst c_2x
        refine lv_tableIn (tgt := 278) hx hb dL_law_33 (by decide) (by decide) rfl (by decide) ?_
        refine lv_aload_n hx hb dL_law_278 rfl (lv_at hl 2 rfl) ?_
        refine t_ci (va_runV (As := []) (rest := []) ⟨hx, hb, hml, hown, hts⟩ (cz_X11_hill l D cA L T r hG hLA.1 σ ρ hB.2.1 _ qx mqx tqx hZ) (cV hts mv_X11_hill mw_3_16 rfl rfl ⟨Nat.le_of_ble_eq_true rfl, Nat.le_of_ble_eq_true rfl⟩) (pV hB.1 hK hN mqx tqx (show shp cA 11 _ _ _ = .inr (11, Fs11 _ _ _) from rfl) rfl) rfl rfl hl.1 rfl (lv_room (Nat.le_of_ble_eq_true rfl)) dL_law_279 ⟨Nat.le_of_ble_eq_true rfl, Nat.le_of_ble_eq_true rfl⟩) hLA hA hB hS (by decide) (fun x_17 σ_15 ρ_16 H locs hB fσ_15 pσ_15 hS => ?_)
        subst pσ_15
        refine lv_aload_n hx hb dL_law_282 rfl (lv_at hl 1 rfl) ?_
        refine t_ci (va_runV (As := []) (rest := [.int (-3)]) ⟨hx, hb, hml, hown, hts⟩ (cz_X12_hill l D cA L T r hG hLA.1 σ_15 ρ_16 hB.2.1 _ qm mqm tqm (ZM.of hZ fσ_15 (by decide))) (cV hts mv_X12_hill mw_7_48 rfl rfl ⟨Nat.le_of_ble_eq_true rfl, Nat.le_of_ble_eq_true rfl⟩) (pV hB.1 hK hN mqm tqm (show shp cA 12 _ _ _ = .inr (12, Fs12 _ _ _) from rfl) rfl) rfl rfl hl.1 rfl (lv_room (Nat.le_of_ble_eq_true rfl)) dL_law_283 ⟨Nat.le_of_ble_eq_true rfl, Nat.le_of_ble_eq_true rfl⟩) hLA hA hB hS (by decide) (fun x_20 σ_18 ρ_19 H locs hB fσ_18 pσ_18 hS => ?_)
        subst pσ_18
        refine lv_icmp_eq (tgt := 1240) hx hb dL_law_286 (by decide) (fun _ => ?_) (fun c9 => absurd (by decide) c9)
        refine lv_iinc (v := 6) (lv' := [(3, .int 6), (2, .ref qm), (1, .ref qx), (0, .ref b)]) hx hb dL_law_1240 hl (k := 0) rfl (by decide) (by decide) rfl (fun ls hl => ?_)
        refine lv_goto (tgt := 18) hx hb dL_law_1243 (by decide) ?_
        refine lv_iload_n hx hb dL_law_18 rfl (lv_at hl 0 rfl) ?_
        refine lv_aload_n hx hb dL_law_19 rfl (lv_at hl 3 rfl) ?_
        refine va_slen hx hb hX hbl hbA hS dL_law_20 ?_
        refine tp_i (w := 6) (by decide) ?_
        refine lv_bipush (v := 6) hx hb dL_law_21 (by decide) ?_
        refine lv_isub hx hb dL_law_23 ?_
        refine tp_i (w := 0) (by decide) ?_
        refine lv_icmp_gt (tgt := 1246) hx hb dL_law_24 (by decide) (fun _ => ?_) (fun c9 => absurd (by decide) c9)
        refine lv_iconst (v := 1) hx hb dL_law_1246 (by decide) ?_
        refine va_forget hS.2.2 ?_
        refine W.widen (k := 600000) (n := 7302250) (Nat.le_of_ble_eq_true rfl) (Nat.le_of_ble_eq_true rfl) ?_
        exact lw_ret hx hb hr hlocks dL_law_1247
      · skip
        have c_2x : x_1 = 3 := i_is (by decide) c_2j
        subst c_2x
        refine lv_tableIn (tgt := 291) hx hb dL_law_33 (by decide) (by decide) rfl (by decide) ?_
        refine lv_aload_n hx hb dL_law_291 rfl (lv_at hl 2 rfl) ?_
        refine t_ci (va_runV (As := []) (rest := []) ⟨hx, hb, hml, hown, hts⟩ (cz_X11_rule l D cA L T r hG hLA.1 σ ρ hB.2.1 _ qx mqx tqx hZ) (cV hts mv_X11_rule mw_4_15 rfl rfl ⟨Nat.le_of_ble_eq_true rfl, Nat.le_of_ble_eq_true rfl⟩) (pV hB.1 hK hN mqx tqx (show shp cA 11 _ _ _ = .inr (11, Fs11 _ _ _) from rfl) rfl) rfl rfl hl.1 rfl (lv_room (Nat.le_of_ble_eq_true rfl)) dL_law_292 ⟨Nat.le_of_ble_eq_true rfl, Nat.le_of_ble_eq_true rfl⟩) hLA hA hB hS (by decide) (fun x_23 σ_21 ρ_22 H locs hB fσ_21 pσ_21 hS => ?_)
        subst pσ_21
        refine lv_aload_n hx hb dL_law_295 rfl (lv_at hl 1 rfl) ?_
        refine t_ci (va_runV (As := []) (rest := [.int (-3)]) ⟨hx, hb, hml, hown, hts⟩ (cz_X12_rule l D cA L T r hG hLA.1 σ_21 ρ_22 hB.2.1 _ qm mqm tqm (ZM.of hZ fσ_21 (by decide))) (cV hts mv_X12_rule mw_6_122 rfl rfl ⟨Nat.le_of_ble_eq_true rfl, Nat.le_of_ble_eq_true rfl⟩) (pV hB.1 hK hN mqm tqm (show shp cA 12 _ _ _ = .inr (12, Fs12 _ _ _) from rfl) rfl) rfl rfl hl.1 rfl (lv_room (Nat.le_of_ble_eq_true rfl)) dL_law_296 ⟨Nat.le_of_ble_eq_true rfl, Nat.le_of_ble_eq_true rfl⟩) hLA hA hB hS (by decide) (fun x_26 σ_24 ρ_25 H locs hB fσ_24 pσ_24 hS => ?_)
        subst pσ_24
        refine lv_icmp_eq (tgt := 1240) hx hb dL_law_299 (by decide) (fun _ => ?_) (fun c9 => absurd (by decide) c9)
        refine lv_iinc (v := 6) (lv' := [(3, .int 6), (2, .ref qm), (1, .ref qx), (0, .ref b)]) hx hb dL_law_1240 hl (k := 0) rfl (by decide) (by decide) rfl (fun ls hl => ?_)
        refine lv_goto (tgt := 18) hx hb dL_law_1243 (by decide) ?_
        refine lv_iload_n hx hb dL_law_18 rfl (lv_at hl 0 rfl) ?_
        refine lv_aload_n hx hb dL_law_19 rfl (lv_at hl 3 rfl) ?_
        refine va_slen hx hb hX hbl hbA hS dL_law_20 ?_
        refine tp_i (w := 6) (by decide) ?_
        refine lv_bipush (v := 6) hx hb dL_law_21 (by decide) ?_
        refine lv_isub hx hb dL_law_23 ?_
        refine tp_i (w := 0) (by decide) ?_
        refine lv_icmp_gt (tgt := 1246) hx hb dL_law_24 (by decide) (fun _ => ?_) (fun c9 => absurd (by decide) c9)
        refine lv_iconst (v := 1) hx hb dL_law_1246 (by decide) ?_
        refine va_forget hS.2.2 ?_
        refine W.widen (k := 600000) (n := 7302250) (Nat.le_of_ble_eq_true rfl) (Nat.le_of_ble_eq_true rfl) ?_
        exact lw_ret hx hb hr hlocks dL_law_1247
      · skip
        have c_2x : x_1 = 4 := i_is (by decide) c_2j
        subst c_2x
        refine lv_tableIn (tgt := 304) hx hb dL_law_33 (by decide) (by decide) rfl (by decide) ?_
        refine lv_aload_n hx hb dL_law_304 rfl (lv_at hl 2 rfl) ?_
        refine lv_aload_n hx hb dL_law_305 rfl (lv_at hl 3 rfl) ?_
        refine lv_iload_n hx hb dL_law_306 rfl (lv_at hl 0 rfl) ?_
        refine lv_iconst (v := 1) hx hb dL_law_307 (by decide) ?_
        refine lv_iadd hx hb dL_law_308 ?_
        refine tp_i (w := 1) (by decide) ?_
        refine va_sld hx hb hX hbl hbA hS (i_in (by decide) (by decide)) dL_law_309 ?_
        refine tp_i (w := xs 1) rfl ?_
        refine t_ci (va_runV (As := [.int (xs 1)]) (rest := []) ⟨hx, hb, hml, hown, hts⟩ (cz_X11_force l D cA L T r hG hLA.1 σ ρ hB.2.1 _ qx mqx tqx (xs 1) hZ) (cV hts mv_X11_force mw_4_62 rfl rfl ⟨Nat.le_of_ble_eq_true rfl, Nat.le_of_ble_eq_true rfl⟩) (pV hB.1 hK hN mqx tqx (show shp cA 11 _ _ _ = .inr (11, Fs11 _ _ _) from rfl) rfl) rfl rfl hl.1 rfl (lv_room (Nat.le_of_ble_eq_true rfl)) dL_law_310 ⟨Nat.le_of_ble_eq_true rfl, Nat.le_of_ble_eq_true rfl⟩) hLA hA hB hS (by decide) (fun x_29 σ_27 ρ_28 H locs hB fσ_27 pσ_27 hS => ?_)
        refine lv_aload_n hx hb dL_law_313 rfl (lv_at hl 1 rfl) ?_
        refine lv_aload_n hx hb dL_law_314 rfl (lv_at hl 3 rfl) ?_
        refine lv_iload_n hx hb dL_law_315 rfl (lv_at hl 0 rfl) ?_
        refine lv_iconst (v := 1) hx hb dL_law_316 (by decide) ?_
        refine lv_iadd hx hb dL_law_317 ?_
        refine tp_i (w := 1) (by decide) ?_
        refine va_sld hx hb hX hbl hbA hS (i_in (by decide) (by decide)) dL_law_318 ?_
        refine tp_i (w := xs 1) rfl ?_
        refine t_ci (va_runV (As := [.int (xs 1)]) (rest := [.int x_29]) ⟨hx, hb, hml, hown, hts⟩ (cz_X12_force l D cA L T r hG hLA.1 σ_27 ρ_28 hB.2.1 _ qm mqm tqm (xs 1) (ZM.of hZ fσ_27 (by decide))) (cV hts mv_X12_force mw_7_52 rfl rfl ⟨Nat.le_of_ble_eq_true rfl, Nat.le_of_ble_eq_true rfl⟩) (pV hB.1 hK hN mqm tqm (show shp cA 12 _ _ _ = .inr (12, Fs12 _ _ _) from rfl) rfl) rfl rfl hl.1 rfl (lv_room (Nat.le_of_ble_eq_true rfl)) dL_law_319 ⟨Nat.le_of_ble_eq_true rfl, Nat.le_of_ble_eq_true rfl⟩) hLA hA hB hS (by decide) (fun x_32 σ_30 ρ_31 H locs hB fσ_30 pσ_30 hS => ?_)
        refine lv_icmp_eq (tgt := 1240) hx hb dL_law_322 (by decide) (fun _ => ?_) (fun c9 => absurd (pσ_27.trans pσ_30.symm) c9)
        refine lv_iinc (v := 6) (lv' := [(3, .int 6), (2, .ref qm), (1, .ref qx), (0, .ref b)]) hx hb dL_law_1240 hl (k := 0) rfl (by decide) (by decide) rfl (fun ls hl => ?_)
        refine lv_goto (tgt := 18) hx hb dL_law_1243 (by decide) ?_
        refine lv_iload_n hx hb dL_law_18 rfl (lv_at hl 0 rfl) ?_
        refine lv_aload_n hx hb dL_law_19 rfl (lv_at hl 3 rfl) ?_
        refine va_slen hx hb hX hbl hbA hS dL_law_20 ?_
        refine tp_i (w := 6) (by decide) ?_
        refine lv_bipush (v := 6) hx hb dL_law_21 (by decide) ?_
        refine lv_isub hx hb dL_law_23 ?_
        refine tp_i (w := 0) (by decide) ?_
        refine lv_icmp_gt (tgt := 1246) hx hb dL_law_24 (by decide) (fun _ => ?_) (fun c9 => absurd (by decide) c9)
        refine lv_iconst (v := 1) hx hb dL_law_1246 (by decide) ?_
        refine va_forget hS.2.2 ?_
        refine W.widen (k := 600000) (n := 7302250) (Nat.le_of_ble_eq_true rfl) (Nat.le_of_ble_eq_true rfl) ?_
        exact lw_ret hx hb hr hlocks dL_law_1247
      · skip
        have c_2x : x_1 = 5 := i_is (by decide) c_2j
        subst c_2x
        refine lv_tableIn (tgt := 327) hx hb dL_law_33 (by decide) (by decide) rfl (by decide) ?_
        refine lv_aload_n hx hb dL_law_327 rfl (lv_at hl 2 rfl) ?_
        refine lv_aload_n hx hb dL_law_328 rfl (lv_at hl 3 rfl) ?_
        refine lv_iload_n hx hb dL_law_329 rfl (lv_at hl 0 rfl) ?_
        refine lv_iconst (v := 1) hx hb dL_law_330 (by decide) ?_
        refine lv_iadd hx hb dL_law_331 ?_
        refine tp_i (w := 1) (by decide) ?_
        refine va_sld hx hb hX hbl hbA hS (i_in (by decide) (by decide)) dL_law_332 ?_
        refine tp_i (w := xs 1) rfl ?_
        refine lv_aload_n hx hb dL_law_333 rfl (lv_at hl 3 rfl) ?_
        refine lv_iload_n hx hb dL_law_334 rfl (lv_at hl 0 rfl) ?_
        refine lv_iconst (v := 2) hx hb dL_law_335 (by decide) ?_
        refine lv_iadd hx hb dL_law_336 ?_
        refine tp_i (w := 2) (by decide) ?_
        refine va_sld hx hb hX hbl hbA hS (i_in (by decide) (by decide)) dL_law_337 ?_
        refine tp_i (w := xs 2) rfl ?_
        refine t_ci (va_runV (As := [.int (xs 1), .int (xs 2)]) (rest := []) ⟨hx, hb, hml, hown, hts⟩ (cz_X11_pilgrim l D cA L T r hG hLA.1 σ ρ hB.2.1 _ qx mqx tqx (xs 1) (xs 2) hZ) (cV hts mv_X11_pilgrim mw_4_66 rfl rfl ⟨Nat.le_of_ble_eq_true rfl, Nat.le_of_ble_eq_true rfl⟩) (pV hB.1 hK hN mqx tqx (show shp cA 11 _ _ _ = .inr (11, Fs11 _ _ _) from rfl) rfl) rfl rfl hl.1 rfl (lv_room (Nat.le_of_ble_eq_true rfl)) dL_law_338 ⟨Nat.le_of_ble_eq_true rfl, Nat.le_of_ble_eq_true rfl⟩) hLA hA hB hS (by decide) (fun x_35 σ_33 ρ_34 H locs hB fσ_33 pσ_33 hS => ?_)
        subst pσ_33
        refine lv_aload_n hx hb dL_law_341 rfl (lv_at hl 1 rfl) ?_
        refine lv_aload_n hx hb dL_law_342 rfl (lv_at hl 3 rfl) ?_
        refine lv_iload_n hx hb dL_law_343 rfl (lv_at hl 0 rfl) ?_
        refine lv_iconst (v := 1) hx hb dL_law_344 (by decide) ?_
        refine lv_iadd hx hb dL_law_345 ?_
        refine tp_i (w := 1) (by decide) ?_
        refine va_sld hx hb hX hbl hbA hS (i_in (by decide) (by decide)) dL_law_346 ?_
        refine tp_i (w := xs 1) rfl ?_
        refine lv_aload_n hx hb dL_law_347 rfl (lv_at hl 3 rfl) ?_
        refine lv_iload_n hx hb dL_law_348 rfl (lv_at hl 0 rfl) ?_
        refine lv_iconst (v := 2) hx hb dL_law_349 (by decide) ?_
        refine lv_iadd hx hb dL_law_350 ?_
        refine tp_i (w := 2) (by decide) ?_
        refine va_sld hx hb hX hbl hbA hS (i_in (by decide) (by decide)) dL_law_351 ?_
        refine tp_i (w := xs 2) rfl ?_
        refine t_ci (va_runV (As := [.int (xs 1), .int (xs 2)]) (rest := [.int (-1)]) ⟨hx, hb, hml, hown, hts⟩ (cz_X12_pilgrim l D cA L T r hG hLA.1 σ_33 ρ_34 hB.2.1 _ qm mqm tqm (xs 1) (xs 2) (ZM.of hZ fσ_33 (by decide))) (cV hts mv_X12_pilgrim mw_7_60 rfl rfl ⟨Nat.le_of_ble_eq_true rfl, Nat.le_of_ble_eq_true rfl⟩) (pV hB.1 hK hN mqm tqm (show shp cA 12 _ _ _ = .inr (12, Fs12 _ _ _) from rfl) rfl) rfl rfl hl.1 rfl (lv_room (Nat.le_of_ble_eq_true rfl)) dL_law_352 ⟨Nat.le_of_ble_eq_true rfl, Nat.le_of_ble_eq_true rfl⟩) hLA hA hB hS (by decide) (fun x_38 σ_36 ρ_37 H locs hB fσ_36 pσ_36 hS => ?_)
        subst pσ_36
        refine lv_icmp_eq (tgt := 1240) hx hb dL_law_355 (by decide) (fun _ => ?_) (fun c9 => absurd (by decide) c9)
        refine lv_iinc (v := 6) (lv' := [(3, .int 6), (2, .ref qm), (1, .ref qx), (0, .ref b)]) hx hb dL_law_1240 hl (k := 0) rfl (by decide) (by decide) rfl (fun ls hl => ?_)
        refine lv_goto (tgt := 18) hx hb dL_law_1243 (by decide) ?_
        refine lv_iload_n hx hb dL_law_18 rfl (lv_at hl 0 rfl) ?_
        refine lv_aload_n hx hb dL_law_19 rfl (lv_at hl 3 rfl) ?_
        refine va_slen hx hb hX hbl hbA hS dL_law_20 ?_
        refine tp_i (w := 6) (by decide) ?_
        refine lv_bipush (v := 6) hx hb dL_law_21 (by decide) ?_
        refine lv_isub hx hb dL_law_23 ?_
        refine tp_i (w := 0) (by decide) ?_
        refine lv_icmp_gt (tgt := 1246) hx hb dL_law_24 (by decide) (fun _ => ?_) (fun c9 => absurd (by decide) c9)
        refine lv_iconst (v := 1) hx hb dL_law_1246 (by decide) ?_
        refine va_forget hS.2.2 ?_
        refine W.widen (k := 600000) (n := 7302250) (Nat.le_of_ble_eq_true rfl) (Nat.le_of_ble_eq_true rfl) ?_
        exact lw_ret hx hb hr hlocks dL_law_1247
      · skip
        have c_2x : x_1 = 6 := i_is (by decide) c_2j
        subst c_2x
        refine lv_tableIn (tgt := 360) hx hb dL_law_33 (by decide) (by decide) rfl (by decide) ?_
        refine lv_aload_n hx hb dL_law_360 rfl (lv_at hl 2 rfl) ?_
        refine lv_aload_n hx hb dL_law_361 rfl (lv_at hl 3 rfl) ?_
        refine lv_iload_n hx hb dL_law_362 rfl (lv_at hl 0 rfl) ?_
        refine lv_iconst (v := 1) hx hb dL_law_363 (by decide) ?_
        refine lv_iadd hx hb dL_law_364 ?_
        refine tp_i (w := 1) (by decide) ?_
        refine va_sld hx hb hX hbl hbA hS (i_in (by decide) (by decide)) dL_law_365 ?_
        refine tp_i (w := xs 1) rfl ?_
        refine lv_aload_n hx hb dL_law_366 rfl (lv_at hl 3 rfl) ?_
        refine lv_iload_n hx hb dL_law_367 rfl (lv_at hl 0 rfl) ?_
        refine lv_iconst (v := 2) hx hb dL_law_368 (by decide) ?_
        refine lv_iadd hx hb dL_law_369 ?_
        refine tp_i (w := 2) (by decide) ?_
        refine va_sld hx hb hX hbl hbA hS (i_in (by decide) (by decide)) dL_law_370 ?_
        refine tp_i (w := xs 2) rfl ?_
        refine t_ci (va_runV (As := [.int (xs 1), .int (xs 2)]) (rest := []) ⟨hx, hb, hml, hown, hts⟩ (cz_X11_bend l D cA L T r hG hLA.1 σ ρ hB.2.1 _ qx mqx tqx (xs 1) (xs 2) hZ) (cV hts mv_X11_bend mw_4_75 rfl rfl ⟨Nat.le_of_ble_eq_true rfl, Nat.le_of_ble_eq_true rfl⟩) (pV hB.1 hK hN mqx tqx (show shp cA 11 _ _ _ = .inr (11, Fs11 _ _ _) from rfl) rfl) rfl rfl hl.1 rfl (lv_room (Nat.le_of_ble_eq_true rfl)) dL_law_371 ⟨Nat.le_of_ble_eq_true rfl, Nat.le_of_ble_eq_true rfl⟩) hLA hA hB hS (by decide) (fun x_41 σ_39 ρ_40 H locs hB fσ_39 pσ_39 hS => ?_)
        subst pσ_39
        refine lv_aload_n hx hb dL_law_374 rfl (lv_at hl 1 rfl) ?_
        refine lv_aload_n hx hb dL_law_375 rfl (lv_at hl 3 rfl) ?_
        refine lv_iload_n hx hb dL_law_376 rfl (lv_at hl 0 rfl) ?_
        refine lv_iconst (v := 1) hx hb dL_law_377 (by decide) ?_
        refine lv_iadd hx hb dL_law_378 ?_
        refine tp_i (w := 1) (by decide) ?_
        refine va_sld hx hb hX hbl hbA hS (i_in (by decide) (by decide)) dL_law_379 ?_
        refine tp_i (w := xs 1) rfl ?_
        refine lv_aload_n hx hb dL_law_380 rfl (lv_at hl 3 rfl) ?_
        refine lv_iload_n hx hb dL_law_381 rfl (lv_at hl 0 rfl) ?_
        refine lv_iconst (v := 2) hx hb dL_law_382 (by decide) ?_
        refine lv_iadd hx hb dL_law_383 ?_
        refine tp_i (w := 2) (by decide) ?_
        refine va_sld hx hb hX hbl hbA hS (i_in (by decide) (by decide)) dL_law_384 ?_
        refine tp_i (w := xs 2) rfl ?_
        refine t_ci (va_runV (As := [.int (xs 1), .int (xs 2)]) (rest := [.int (-1)]) ⟨hx, hb, hml, hown, hts⟩ (cz_X12_bend l D cA L T r hG hLA.1 σ_39 ρ_40 hB.2.1 _ qm mqm tqm (xs 1) (xs 2) (ZM.of hZ fσ_39 (by decide))) (cV hts mv_X12_bend mw_7_85 rfl rfl ⟨Nat.le_of_ble_eq_true rfl, Nat.le_of_ble_eq_true rfl⟩) (pV hB.1 hK hN mqm tqm (show shp cA 12 _ _ _ = .inr (12, Fs12 _ _ _) from rfl) rfl) rfl rfl hl.1 rfl (lv_room (Nat.le_of_ble_eq_true rfl)) dL_law_385 ⟨Nat.le_of_ble_eq_true rfl, Nat.le_of_ble_eq_true rfl⟩) hLA hA hB hS (by decide) (fun x_44 σ_42 ρ_43 H locs hB fσ_42 pσ_42 hS => ?_)
        subst pσ_42
        refine lv_icmp_eq (tgt := 1240) hx hb dL_law_388 (by decide) (fun _ => ?_) (fun c9 => absurd (by decide) c9)
        refine lv_iinc (v := 6) (lv' := [(3, .int 6), (2, .ref qm), (1, .ref qx), (0, .ref b)]) hx hb dL_law_1240 hl (k := 0) rfl (by decide) (by decide) rfl (fun ls hl => ?_)
        refine lv_goto (tgt := 18) hx hb dL_law_1243 (by decide) ?_
        refine lv_iload_n hx hb dL_law_18 rfl (lv_at hl 0 rfl) ?_
        refine lv_aload_n hx hb dL_law_19 rfl (lv_at hl 3 rfl) ?_
        refine va_slen hx hb hX hbl hbA hS dL_law_20 ?_
        refine tp_i (w := 6) (by decide) ?_
        refine lv_bipush (v := 6) hx hb dL_law_21 (by decide) ?_
        refine lv_isub hx hb dL_law_23 ?_
        refine tp_i (w := 0) (by decide) ?_
        refine lv_icmp_gt (tgt := 1246) hx hb dL_law_24 (by decide) (fun _ => ?_) (fun c9 => absurd (by decide) c9)
        refine lv_iconst (v := 1) hx hb dL_law_1246 (by decide) ?_
        refine va_forget hS.2.2 ?_
        refine W.widen (k := 600000) (n := 7302250) (Nat.le_of_ble_eq_true rfl) (Nat.le_of_ble_eq_true rfl) ?_
        exact lw_ret hx hb hr hlocks dL_law_1247
      · skip
        have c_2x : x_1 = 7 := i_is (by decide) c_2j
        subst c_2x
        refine lv_tableIn (tgt := 393) hx hb dL_law_33 (by decide) (by decide) rfl (by decide) ?_
        refine lv_aload_n hx hb dL_law_393 rfl (lv_at hl 2 rfl) ?_
        refine lv_aload_n hx hb dL_law_394 rfl (lv_at hl 3 rfl) ?_
        refine lv_iload_n hx hb dL_law_395 rfl (lv_at hl 0 rfl) ?_
        refine lv_iconst (v := 1) hx hb dL_law_396 (by decide) ?_
        refine lv_iadd hx hb dL_law_397 ?_
        refine tp_i (w := 1) (by decide) ?_
        refine va_sld hx hb hX hbl hbA hS (i_in (by decide) (by decide)) dL_law_398 ?_
        refine tp_i (w := xs 1) rfl ?_
        refine lv_aload_n hx hb dL_law_399 rfl (lv_at hl 3 rfl) ?_
        refine lv_iload_n hx hb dL_law_400 rfl (lv_at hl 0 rfl) ?_
        refine lv_iconst (v := 2) hx hb dL_law_401 (by decide) ?_
        refine lv_iadd hx hb dL_law_402 ?_
        refine tp_i (w := 2) (by decide) ?_
        refine va_sld hx hb hX hbl hbA hS (i_in (by decide) (by decide)) dL_law_403 ?_
        refine tp_i (w := xs 2) rfl ?_
        refine t_ci (va_runV (As := [.int (xs 1), .int (xs 2)]) (rest := []) ⟨hx, hb, hml, hown, hts⟩ (cz_X11_sort l D cA L T r hG hLA.1 σ ρ hB.2.1 _ qx mqx tqx (xs 1) (xs 2) hZ) (cV hts mv_X11_sort mw_4_87 rfl rfl ⟨Nat.le_of_ble_eq_true rfl, Nat.le_of_ble_eq_true rfl⟩) (pV hB.1 hK hN mqx tqx (show shp cA 11 _ _ _ = .inr (11, Fs11 _ _ _) from rfl) rfl) rfl rfl hl.1 rfl (lv_room (Nat.le_of_ble_eq_true rfl)) dL_law_404 ⟨Nat.le_of_ble_eq_true rfl, Nat.le_of_ble_eq_true rfl⟩) hLA hA hB hS (by decide) (fun x_47 σ_45 ρ_46 H locs hB fσ_45 pσ_45 hS => ?_)
        subst pσ_45
        refine lv_aload_n hx hb dL_law_407 rfl (lv_at hl 1 rfl) ?_
        refine lv_aload_n hx hb dL_law_408 rfl (lv_at hl 3 rfl) ?_
        refine lv_iload_n hx hb dL_law_409 rfl (lv_at hl 0 rfl) ?_
        refine lv_iconst (v := 1) hx hb dL_law_410 (by decide) ?_
        refine lv_iadd hx hb dL_law_411 ?_
        refine tp_i (w := 1) (by decide) ?_
        refine va_sld hx hb hX hbl hbA hS (i_in (by decide) (by decide)) dL_law_412 ?_
        refine tp_i (w := xs 1) rfl ?_
        refine lv_aload_n hx hb dL_law_413 rfl (lv_at hl 3 rfl) ?_
        refine lv_iload_n hx hb dL_law_414 rfl (lv_at hl 0 rfl) ?_
        refine lv_iconst (v := 2) hx hb dL_law_415 (by decide) ?_
        refine lv_iadd hx hb dL_law_416 ?_
        refine tp_i (w := 2) (by decide) ?_
        refine va_sld hx hb hX hbl hbA hS (i_in (by decide) (by decide)) dL_law_417 ?_
        refine tp_i (w := xs 2) rfl ?_
        refine t_ci (va_runV (As := [.int (xs 1), .int (xs 2)]) (rest := [.int (-1)]) ⟨hx, hb, hml, hown, hts⟩ (cz_X12_sort l D cA L T r hG hLA.1 σ_45 ρ_46 hB.2.1 _ qm mqm tqm (xs 1) (xs 2) (ZM.of hZ fσ_45 (by decide))) (cV hts mv_X12_sort mw_7_106 rfl rfl ⟨Nat.le_of_ble_eq_true rfl, Nat.le_of_ble_eq_true rfl⟩) (pV hB.1 hK hN mqm tqm (show shp cA 12 _ _ _ = .inr (12, Fs12 _ _ _) from rfl) rfl) rfl rfl hl.1 rfl (lv_room (Nat.le_of_ble_eq_true rfl)) dL_law_418 ⟨Nat.le_of_ble_eq_true rfl, Nat.le_of_ble_eq_true rfl⟩) hLA hA hB hS (by decide) (fun x_50 σ_48 ρ_49 H locs hB fσ_48 pσ_48 hS => ?_)
        subst pσ_48
        refine lv_icmp_eq (tgt := 1240) hx hb dL_law_421 (by decide) (fun _ => ?_) (fun c9 => absurd (by decide) c9)
        refine lv_iinc (v := 6) (lv' := [(3, .int 6), (2, .ref qm), (1, .ref qx), (0, .ref b)]) hx hb dL_law_1240 hl (k := 0) rfl (by decide) (by decide) rfl (fun ls hl => ?_)
        refine lv_goto (tgt := 18) hx hb dL_law_1243 (by decide) ?_
        refine lv_iload_n hx hb dL_law_18 rfl (lv_at hl 0 rfl) ?_
        refine lv_aload_n hx hb dL_law_19 rfl (lv_at hl 3 rfl) ?_
        refine va_slen hx hb hX hbl hbA hS dL_law_20 ?_
        refine tp_i (w := 6) (by decide) ?_
        refine lv_bipush (v := 6) hx hb dL_law_21 (by decide) ?_
        refine lv_isub hx hb dL_law_23 ?_
        refine tp_i (w := 0) (by decide) ?_
        refine lv_icmp_gt (tgt := 1246) hx hb dL_law_24 (by decide) (fun _ => ?_) (fun c9 => absurd (by decide) c9)
        refine lv_iconst (v := 1) hx hb dL_law_1246 (by decide) ?_
        refine va_forget hS.2.2 ?_
        refine W.widen (k := 600000) (n := 7302250) (Nat.le_of_ble_eq_true rfl) (Nat.le_of_ble_eq_true rfl) ?_
        exact lw_ret hx hb hr hlocks dL_law_1247
      · skip
        have c_2x : x_1 = 8 := i_is (by decide) c_2j
        subst c_2x
        refine lv_tableIn (tgt := 426) hx hb dL_law_33 (by decide) (by decide) rfl (by decide) ?_
        refine lv_aload_n hx hb dL_law_426 rfl (lv_at hl 2 rfl) ?_
        refine t_ci (va_runV (As := []) (rest := []) ⟨hx, hb, hml, hown, hts⟩ (cz_X11_night l D cA L T r hG hLA.1 σ ρ hB.2.1 _ qx mqx tqx hZ) (cV hts mv_X11_night mw_4_95 rfl rfl ⟨Nat.le_of_ble_eq_true rfl, Nat.le_of_ble_eq_true rfl⟩) (pV hB.1 hK hN mqx tqx (show shp cA 11 _ _ _ = .inr (11, Fs11 _ _ _) from rfl) rfl) rfl rfl hl.1 rfl (lv_room (Nat.le_of_ble_eq_true rfl)) dL_law_427 ⟨Nat.le_of_ble_eq_true rfl, Nat.le_of_ble_eq_true rfl⟩) hLA hA hB hS (by decide) (fun x_53 σ_51 ρ_52 H locs hB fσ_51 pσ_51 hS => ?_)
        subst pσ_51
        refine lv_aload_n hx hb dL_law_430 rfl (lv_at hl 1 rfl) ?_
        refine t_ci (va_runV (As := []) (rest := [.int (-1)]) ⟨hx, hb, hml, hown, hts⟩ (cz_X12_night l D cA L T r hG hLA.1 σ_51 ρ_52 hB.2.1 _ qm mqm tqm (ZM.of hZ fσ_51 (by decide))) (cV hts mv_X12_night mw_7_119 rfl rfl ⟨Nat.le_of_ble_eq_true rfl, Nat.le_of_ble_eq_true rfl⟩) (pV hB.1 hK hN mqm tqm (show shp cA 12 _ _ _ = .inr (12, Fs12 _ _ _) from rfl) rfl) rfl rfl hl.1 rfl (lv_room (Nat.le_of_ble_eq_true rfl)) dL_law_431 ⟨Nat.le_of_ble_eq_true rfl, Nat.le_of_ble_eq_true rfl⟩) hLA hA hB hS (by decide) (fun x_56 σ_54 ρ_55 H locs hB fσ_54 pσ_54 hS => ?_)
        subst pσ_54
        refine lv_icmp_eq (tgt := 1240) hx hb dL_law_434 (by decide) (fun _ => ?_) (fun c9 => absurd (by decide) c9)
        refine lv_iinc (v := 6) (lv' := [(3, .int 6), (2, .ref qm), (1, .ref qx), (0, .ref b)]) hx hb dL_law_1240 hl (k := 0) rfl (by decide) (by decide) rfl (fun ls hl => ?_)
        refine lv_goto (tgt := 18) hx hb dL_law_1243 (by decide) ?_
        refine lv_iload_n hx hb dL_law_18 rfl (lv_at hl 0 rfl) ?_
        refine lv_aload_n hx hb dL_law_19 rfl (lv_at hl 3 rfl) ?_
        refine va_slen hx hb hX hbl hbA hS dL_law_20 ?_
        refine tp_i (w := 6) (by decide) ?_
        refine lv_bipush (v := 6) hx hb dL_law_21 (by decide) ?_
        refine lv_isub hx hb dL_law_23 ?_
        refine tp_i (w := 0) (by decide) ?_
        refine lv_icmp_gt (tgt := 1246) hx hb dL_law_24 (by decide) (fun _ => ?_) (fun c9 => absurd (by decide) c9)
        refine lv_iconst (v := 1) hx hb dL_law_1246 (by decide) ?_
        refine va_forget hS.2.2 ?_
        refine W.widen (k := 600000) (n := 7302250) (Nat.le_of_ble_eq_true rfl) (Nat.le_of_ble_eq_true rfl) ?_
        exact lw_ret hx hb hr hlocks dL_law_1247
      · skip
        have c_2x : x_1 = 9 := i_is (by decide) c_2j
        subst c_2x
        refine lv_tableIn (tgt := 439) hx hb dL_law_33 (by decide) (by decide) rfl (by decide) ?_
        refine lv_aload_n hx hb dL_law_439 rfl (lv_at hl 2 rfl) ?_
        refine lv_aload_n hx hb dL_law_440 rfl (lv_at hl 3 rfl) ?_
        refine lv_iload_n hx hb dL_law_441 rfl (lv_at hl 0 rfl) ?_
        refine lv_iconst (v := 1) hx hb dL_law_442 (by decide) ?_
        refine lv_iadd hx hb dL_law_443 ?_
        refine tp_i (w := 1) (by decide) ?_
        refine va_sld hx hb hX hbl hbA hS (i_in (by decide) (by decide)) dL_law_444 ?_
        refine tp_i (w := xs 1) rfl ?_
        refine t_ci (va_runV (As := [.int (xs 1)]) (rest := []) ⟨hx, hb, hml, hown, hts⟩ (cz_X11_climb l D cA L T r hG hLA.1 σ ρ hB.2.1 _ qx mqx tqx (xs 1) hZ) (cV hts mv_X11_climb mw_4_135 rfl rfl ⟨Nat.le_of_ble_eq_true rfl, Nat.le_of_ble_eq_true rfl⟩) (pV hB.1 hK hN mqx tqx (show shp cA 11 _ _ _ = .inr (11, Fs11 _ _ _) from rfl) rfl) rfl rfl hl.1 rfl (lv_room (Nat.le_of_ble_eq_true rfl)) dL_law_445 ⟨Nat.le_of_ble_eq_true rfl, Nat.le_of_ble_eq_true rfl⟩) hLA hA hB hS (by decide) (fun x_59 σ_57 ρ_58 H locs hB fσ_57 pσ_57 hS => ?_)
        subst pσ_57
        refine lv_aload_n hx hb dL_law_448 rfl (lv_at hl 1 rfl) ?_
        refine lv_aload_n hx hb dL_law_449 rfl (lv_at hl 3 rfl) ?_
        refine lv_iload_n hx hb dL_law_450 rfl (lv_at hl 0 rfl) ?_
        refine lv_iconst (v := 1) hx hb dL_law_451 (by decide) ?_
        refine lv_iadd hx hb dL_law_452 ?_
        refine tp_i (w := 1) (by decide) ?_
        refine va_sld hx hb hX hbl hbA hS (i_in (by decide) (by decide)) dL_law_453 ?_
        refine tp_i (w := xs 1) rfl ?_
        refine t_ci (va_runV (As := [.int (xs 1)]) (rest := [.int (-1)]) ⟨hx, hb, hml, hown, hts⟩ (cz_X12_climb l D cA L T r hG hLA.1 σ_57 ρ_58 hB.2.1 _ qm mqm tqm (xs 1) (ZM.of hZ fσ_57 (by decide))) (cV hts mv_X12_climb mw_7_162 rfl rfl ⟨Nat.le_of_ble_eq_true rfl, Nat.le_of_ble_eq_true rfl⟩) (pV hB.1 hK hN mqm tqm (show shp cA 12 _ _ _ = .inr (12, Fs12 _ _ _) from rfl) rfl) rfl rfl hl.1 rfl (lv_room (Nat.le_of_ble_eq_true rfl)) dL_law_454 ⟨Nat.le_of_ble_eq_true rfl, Nat.le_of_ble_eq_true rfl⟩) hLA hA hB hS (by decide) (fun x_62 σ_60 ρ_61 H locs hB fσ_60 pσ_60 hS => ?_)
        subst pσ_60
        refine lv_icmp_eq (tgt := 1240) hx hb dL_law_457 (by decide) (fun _ => ?_) (fun c9 => absurd (by decide) c9)
        refine lv_iinc (v := 6) (lv' := [(3, .int 6), (2, .ref qm), (1, .ref qx), (0, .ref b)]) hx hb dL_law_1240 hl (k := 0) rfl (by decide) (by decide) rfl (fun ls hl => ?_)
        refine lv_goto (tgt := 18) hx hb dL_law_1243 (by decide) ?_
        refine lv_iload_n hx hb dL_law_18 rfl (lv_at hl 0 rfl) ?_
        refine lv_aload_n hx hb dL_law_19 rfl (lv_at hl 3 rfl) ?_
        refine va_slen hx hb hX hbl hbA hS dL_law_20 ?_
        refine tp_i (w := 6) (by decide) ?_
        refine lv_bipush (v := 6) hx hb dL_law_21 (by decide) ?_
        refine lv_isub hx hb dL_law_23 ?_
        refine tp_i (w := 0) (by decide) ?_
        refine lv_icmp_gt (tgt := 1246) hx hb dL_law_24 (by decide) (fun _ => ?_) (fun c9 => absurd (by decide) c9)
        refine lv_iconst (v := 1) hx hb dL_law_1246 (by decide) ?_
        refine va_forget hS.2.2 ?_
        refine W.widen (k := 600000) (n := 7302250) (Nat.le_of_ble_eq_true rfl) (Nat.le_of_ble_eq_true rfl) ?_
        exact lw_ret hx hb hr hlocks dL_law_1247
      · skip
        have c_2x : x_1 = 10 := i_is (by decide) c_2j
        subst c_2x
        refine lv_tableIn (tgt := 462) hx hb dL_law_33 (by decide) (by decide) rfl (by decide) ?_
        refine lv_aload_n hx hb dL_law_462 rfl (lv_at hl 2 rfl) ?_
        refine lv_aload_n hx hb dL_law_463 rfl (lv_at hl 3 rfl) ?_
        refine lv_iload_n hx hb dL_law_464 rfl (lv_at hl 0 rfl) ?_
        refine lv_iconst (v := 1) hx hb dL_law_465 (by decide) ?_
        refine lv_iadd hx hb dL_law_466 ?_
        refine tp_i (w := 1) (by decide) ?_
        refine va_sld hx hb hX hbl hbA hS (i_in (by decide) (by decide)) dL_law_467 ?_
        refine tp_i (w := xs 1) rfl ?_
        refine t_ci (va_runV (As := [.int (xs 1)]) (rest := []) ⟨hx, hb, hml, hown, hts⟩ (cz_X11_down l D cA L T r hG hLA.1 σ ρ hB.2.1 _ qx mqx tqx (xs 1) hZ) (cV hts mv_X11_down mw_4_149 rfl rfl ⟨Nat.le_of_ble_eq_true rfl, Nat.le_of_ble_eq_true rfl⟩) (pV hB.1 hK hN mqx tqx (show shp cA 11 _ _ _ = .inr (11, Fs11 _ _ _) from rfl) rfl) rfl rfl hl.1 rfl (lv_room (Nat.le_of_ble_eq_true rfl)) dL_law_468 ⟨Nat.le_of_ble_eq_true rfl, Nat.le_of_ble_eq_true rfl⟩) hLA hA hB hS (by decide) (fun x_65 σ_63 ρ_64 H locs hB fσ_63 pσ_63 hS => ?_)
        subst pσ_63
        refine lv_aload_n hx hb dL_law_471 rfl (lv_at hl 1 rfl) ?_
        refine lv_aload_n hx hb dL_law_472 rfl (lv_at hl 3 rfl) ?_
        refine lv_iload_n hx hb dL_law_473 rfl (lv_at hl 0 rfl) ?_
        refine lv_iconst (v := 1) hx hb dL_law_474 (by decide) ?_
        refine lv_iadd hx hb dL_law_475 ?_
        refine tp_i (w := 1) (by decide) ?_
        refine va_sld hx hb hX hbl hbA hS (i_in (by decide) (by decide)) dL_law_476 ?_
        refine tp_i (w := xs 1) rfl ?_
        refine t_ci (va_runV (As := [.int (xs 1)]) (rest := [.int (-1)]) ⟨hx, hb, hml, hown, hts⟩ (cz_X12_down l D cA L T r hG hLA.1 σ_63 ρ_64 hB.2.1 _ qm mqm tqm (xs 1) (ZM.of hZ fσ_63 (by decide))) (cV hts mv_X12_down mw_7_178 rfl rfl ⟨Nat.le_of_ble_eq_true rfl, Nat.le_of_ble_eq_true rfl⟩) (pV hB.1 hK hN mqm tqm (show shp cA 12 _ _ _ = .inr (12, Fs12 _ _ _) from rfl) rfl) rfl rfl hl.1 rfl (lv_room (Nat.le_of_ble_eq_true rfl)) dL_law_477 ⟨Nat.le_of_ble_eq_true rfl, Nat.le_of_ble_eq_true rfl⟩) hLA hA hB hS (by decide) (fun x_68 σ_66 ρ_67 H locs hB fσ_66 pσ_66 hS => ?_)
        subst pσ_66
        refine lv_icmp_eq (tgt := 1240) hx hb dL_law_480 (by decide) (fun _ => ?_) (fun c9 => absurd (by decide) c9)
        refine lv_iinc (v := 6) (lv' := [(3, .int 6), (2, .ref qm), (1, .ref qx), (0, .ref b)]) hx hb dL_law_1240 hl (k := 0) rfl (by decide) (by decide) rfl (fun ls hl => ?_)
        refine lv_goto (tgt := 18) hx hb dL_law_1243 (by decide) ?_
        refine lv_iload_n hx hb dL_law_18 rfl (lv_at hl 0 rfl) ?_
        refine lv_aload_n hx hb dL_law_19 rfl (lv_at hl 3 rfl) ?_
        refine va_slen hx hb hX hbl hbA hS dL_law_20 ?_
        refine tp_i (w := 6) (by decide) ?_
        refine lv_bipush (v := 6) hx hb dL_law_21 (by decide) ?_
        refine lv_isub hx hb dL_law_23 ?_
        refine tp_i (w := 0) (by decide) ?_
        refine lv_icmp_gt (tgt := 1246) hx hb dL_law_24 (by decide) (fun _ => ?_) (fun c9 => absurd (by decide) c9)
        refine lv_iconst (v := 1) hx hb dL_law_1246 (by decide) ?_
        refine va_forget hS.2.2 ?_
        refine W.widen (k := 600000) (n := 7302250) (Nat.le_of_ble_eq_true rfl) (Nat.le_of_ble_eq_true rfl) ?_
        exact lw_ret hx hb hr hlocks dL_law_1247
      · skip
        have c_2x : x_1 = 11 := i_is (by decide) c_2j
        subst c_2x
        refine lv_tableIn (tgt := 485) hx hb dL_law_33 (by decide) (by decide) rfl (by decide) ?_
        refine lv_aload_n hx hb dL_law_485 rfl (lv_at hl 2 rfl) ?_
        refine lv_aload_n hx hb dL_law_486 rfl (lv_at hl 3 rfl) ?_
        refine lv_iload_n hx hb dL_law_487 rfl (lv_at hl 0 rfl) ?_
        refine lv_iconst (v := 1) hx hb dL_law_488 (by decide) ?_
        refine lv_iadd hx hb dL_law_489 ?_
        refine tp_i (w := 1) (by decide) ?_
        refine va_sld hx hb hX hbl hbA hS (i_in (by decide) (by decide)) dL_law_490 ?_
        refine tp_i (w := xs 1) rfl ?_
        refine lv_aload_n hx hb dL_law_491 rfl (lv_at hl 3 rfl) ?_
        refine lv_iload_n hx hb dL_law_492 rfl (lv_at hl 0 rfl) ?_
        refine lv_iconst (v := 2) hx hb dL_law_493 (by decide) ?_
        refine lv_iadd hx hb dL_law_494 ?_
        refine tp_i (w := 2) (by decide) ?_
        refine va_sld hx hb hX hbl hbA hS (i_in (by decide) (by decide)) dL_law_495 ?_
        refine tp_i (w := xs 2) rfl ?_
        refine t_ci (va_runV (As := [.int (xs 1), .int (xs 2)]) (rest := []) ⟨hx, hb, hml, hown, hts⟩ (cz_X11_take l D cA L T r hG hLA.1 σ ρ hB.2.1 _ qx mqx tqx (xs 1) (xs 2) hZ) (cV hts mv_X11_take mw_4_153 rfl rfl ⟨Nat.le_of_ble_eq_true rfl, Nat.le_of_ble_eq_true rfl⟩) (pV hB.1 hK hN mqx tqx (show shp cA 11 _ _ _ = .inr (11, Fs11 _ _ _) from rfl) rfl) rfl rfl hl.1 rfl (lv_room (Nat.le_of_ble_eq_true rfl)) dL_law_496 ⟨Nat.le_of_ble_eq_true rfl, Nat.le_of_ble_eq_true rfl⟩) hLA hA hB hS (by decide) (fun x_71 σ_69 ρ_70 H locs hB fσ_69 pσ_69 hS => ?_)
        subst pσ_69
        refine lv_aload_n hx hb dL_law_499 rfl (lv_at hl 1 rfl) ?_
        refine lv_aload_n hx hb dL_law_500 rfl (lv_at hl 3 rfl) ?_
        refine lv_iload_n hx hb dL_law_501 rfl (lv_at hl 0 rfl) ?_
        refine lv_iconst (v := 1) hx hb dL_law_502 (by decide) ?_
        refine lv_iadd hx hb dL_law_503 ?_
        refine tp_i (w := 1) (by decide) ?_
        refine va_sld hx hb hX hbl hbA hS (i_in (by decide) (by decide)) dL_law_504 ?_
        refine tp_i (w := xs 1) rfl ?_
        refine lv_aload_n hx hb dL_law_505 rfl (lv_at hl 3 rfl) ?_
        refine lv_iload_n hx hb dL_law_506 rfl (lv_at hl 0 rfl) ?_
        refine lv_iconst (v := 2) hx hb dL_law_507 (by decide) ?_
        refine lv_iadd hx hb dL_law_508 ?_
        refine tp_i (w := 2) (by decide) ?_
        refine va_sld hx hb hX hbl hbA hS (i_in (by decide) (by decide)) dL_law_509 ?_
        refine tp_i (w := xs 2) rfl ?_
        refine t_ci (va_runV (As := [.int (xs 1), .int (xs 2)]) (rest := [.int (-1)]) ⟨hx, hb, hml, hown, hts⟩ (cz_X12_take l D cA L T r hG hLA.1 σ_69 ρ_70 hB.2.1 _ qm mqm tqm (xs 1) (xs 2) (ZM.of hZ fσ_69 (by decide))) (cV hts mv_X12_take mw_7_182 rfl rfl ⟨Nat.le_of_ble_eq_true rfl, Nat.le_of_ble_eq_true rfl⟩) (pV hB.1 hK hN mqm tqm (show shp cA 12 _ _ _ = .inr (12, Fs12 _ _ _) from rfl) rfl) rfl rfl hl.1 rfl (lv_room (Nat.le_of_ble_eq_true rfl)) dL_law_510 ⟨Nat.le_of_ble_eq_true rfl, Nat.le_of_ble_eq_true rfl⟩) hLA hA hB hS (by decide) (fun x_74 σ_72 ρ_73 H locs hB fσ_72 pσ_72 hS => ?_)
        subst pσ_72
        refine lv_icmp_eq (tgt := 1240) hx hb dL_law_513 (by decide) (fun _ => ?_) (fun c9 => absurd (by decide) c9)
        refine lv_iinc (v := 6) (lv' := [(3, .int 6), (2, .ref qm), (1, .ref qx), (0, .ref b)]) hx hb dL_law_1240 hl (k := 0) rfl (by decide) (by decide) rfl (fun ls hl => ?_)
        refine lv_goto (tgt := 18) hx hb dL_law_1243 (by decide) ?_
        refine lv_iload_n hx hb dL_law_18 rfl (lv_at hl 0 rfl) ?_
        refine lv_aload_n hx hb dL_law_19 rfl (lv_at hl 3 rfl) ?_
        refine va_slen hx hb hX hbl hbA hS dL_law_20 ?_
        refine tp_i (w := 6) (by decide) ?_
        refine lv_bipush (v := 6) hx hb dL_law_21 (by decide) ?_
        refine lv_isub hx hb dL_law_23 ?_
        refine tp_i (w := 0) (by decide) ?_
        refine lv_icmp_gt (tgt := 1246) hx hb dL_law_24 (by decide) (fun _ => ?_) (fun c9 => absurd (by decide) c9)
        refine lv_iconst (v := 1) hx hb dL_law_1246 (by decide) ?_
        refine va_forget hS.2.2 ?_
        refine W.widen (k := 600000) (n := 7302250) (Nat.le_of_ble_eq_true rfl) (Nat.le_of_ble_eq_true rfl) ?_
        exact lw_ret hx hb hr hlocks dL_law_1247
      · skip
        have c_2x : x_1 = 12 := i_is (by decide) c_2j
        subst c_2x
        refine lv_tableIn (tgt := 518) hx hb dL_law_33 (by decide) (by decide) rfl (by decide) ?_
        refine lv_aload_n hx hb dL_law_518 rfl (lv_at hl 2 rfl) ?_
        refine lv_aload_n hx hb dL_law_519 rfl (lv_at hl 3 rfl) ?_
        refine lv_iload_n hx hb dL_law_520 rfl (lv_at hl 0 rfl) ?_
        refine lv_iconst (v := 1) hx hb dL_law_521 (by decide) ?_
        refine lv_iadd hx hb dL_law_522 ?_
        refine tp_i (w := 1) (by decide) ?_
        refine va_sld hx hb hX hbl hbA hS (i_in (by decide) (by decide)) dL_law_523 ?_
        refine tp_i (w := xs 1) rfl ?_
        refine lv_aload_n hx hb dL_law_524 rfl (lv_at hl 3 rfl) ?_
        refine lv_iload_n hx hb dL_law_525 rfl (lv_at hl 0 rfl) ?_
        refine lv_iconst (v := 2) hx hb dL_law_526 (by decide) ?_
        refine lv_iadd hx hb dL_law_527 ?_
        refine tp_i (w := 2) (by decide) ?_
        refine va_sld hx hb hX hbl hbA hS (i_in (by decide) (by decide)) dL_law_528 ?_
        refine tp_i (w := xs 2) rfl ?_
        refine t_ci (va_runV (As := [.int (xs 1), .int (xs 2)]) (rest := []) ⟨hx, hb, hml, hown, hts⟩ (cz_X11_buy l D cA L T r hG hLA.1 σ ρ hB.2.1 _ qx mqx tqx (xs 1) (xs 2) hZ) (cV hts mv_X11_buy mw_4_170 rfl rfl ⟨Nat.le_of_ble_eq_true rfl, Nat.le_of_ble_eq_true rfl⟩) (pV hB.1 hK hN mqx tqx (show shp cA 11 _ _ _ = .inr (11, Fs11 _ _ _) from rfl) rfl) rfl rfl hl.1 rfl (lv_room (Nat.le_of_ble_eq_true rfl)) dL_law_529 ⟨Nat.le_of_ble_eq_true rfl, Nat.le_of_ble_eq_true rfl⟩) hLA hA hB hS (by decide) (fun x_77 σ_75 ρ_76 H locs hB fσ_75 pσ_75 hS => ?_)
        subst pσ_75
        refine lv_aload_n hx hb dL_law_532 rfl (lv_at hl 1 rfl) ?_
        refine lv_aload_n hx hb dL_law_533 rfl (lv_at hl 3 rfl) ?_
        refine lv_iload_n hx hb dL_law_534 rfl (lv_at hl 0 rfl) ?_
        refine lv_iconst (v := 1) hx hb dL_law_535 (by decide) ?_
        refine lv_iadd hx hb dL_law_536 ?_
        refine tp_i (w := 1) (by decide) ?_
        refine va_sld hx hb hX hbl hbA hS (i_in (by decide) (by decide)) dL_law_537 ?_
        refine tp_i (w := xs 1) rfl ?_
        refine lv_aload_n hx hb dL_law_538 rfl (lv_at hl 3 rfl) ?_
        refine lv_iload_n hx hb dL_law_539 rfl (lv_at hl 0 rfl) ?_
        refine lv_iconst (v := 2) hx hb dL_law_540 (by decide) ?_
        refine lv_iadd hx hb dL_law_541 ?_
        refine tp_i (w := 2) (by decide) ?_
        refine va_sld hx hb hX hbl hbA hS (i_in (by decide) (by decide)) dL_law_542 ?_
        refine tp_i (w := xs 2) rfl ?_
        refine t_ci (va_runV (As := [.int (xs 1), .int (xs 2)]) (rest := [.int (-1)]) ⟨hx, hb, hml, hown, hts⟩ (cz_X12_buy l D cA L T r hG hLA.1 σ_75 ρ_76 hB.2.1 _ qm mqm tqm (xs 1) (xs 2) (ZM.of hZ fσ_75 (by decide))) (cV hts mv_X12_buy mw_7_190 rfl rfl ⟨Nat.le_of_ble_eq_true rfl, Nat.le_of_ble_eq_true rfl⟩) (pV hB.1 hK hN mqm tqm (show shp cA 12 _ _ _ = .inr (12, Fs12 _ _ _) from rfl) rfl) rfl rfl hl.1 rfl (lv_room (Nat.le_of_ble_eq_true rfl)) dL_law_543 ⟨Nat.le_of_ble_eq_true rfl, Nat.le_of_ble_eq_true rfl⟩) hLA hA hB hS (by decide) (fun x_80 σ_78 ρ_79 H locs hB fσ_78 pσ_78 hS => ?_)
        subst pσ_78
        refine lv_icmp_eq (tgt := 1240) hx hb dL_law_546 (by decide) (fun _ => ?_) (fun c9 => absurd (by decide) c9)
        refine lv_iinc (v := 6) (lv' := [(3, .int 6), (2, .ref qm), (1, .ref qx), (0, .ref b)]) hx hb dL_law_1240 hl (k := 0) rfl (by decide) (by decide) rfl (fun ls hl => ?_)
        refine lv_goto (tgt := 18) hx hb dL_law_1243 (by decide) ?_
        refine lv_iload_n hx hb dL_law_18 rfl (lv_at hl 0 rfl) ?_
        refine lv_aload_n hx hb dL_law_19 rfl (lv_at hl 3 rfl) ?_
        refine va_slen hx hb hX hbl hbA hS dL_law_20 ?_
        refine tp_i (w := 6) (by decide) ?_
        refine lv_bipush (v := 6) hx hb dL_law_21 (by decide) ?_
        refine lv_isub hx hb dL_law_23 ?_
        refine tp_i (w := 0) (by decide) ?_
        refine lv_icmp_gt (tgt := 1246) hx hb dL_law_24 (by decide) (fun _ => ?_) (fun c9 => absurd (by decide) c9)
        refine lv_iconst (v := 1) hx hb dL_law_1246 (by decide) ?_
        refine va_forget hS.2.2 ?_
        refine W.widen (k := 600000) (n := 7302250) (Nat.le_of_ble_eq_true rfl) (Nat.le_of_ble_eq_true rfl) ?_
        exact lw_ret hx hb hr hlocks dL_law_1247
      · skip
        have c_2x : x_1 = 13 := i_is (by decide) c_2j
        subst c_2x
        refine lv_tableIn (tgt := 551) hx hb dL_law_33 (by decide) (by decide) rfl (by decide) ?_
        refine lv_aload_n hx hb dL_law_551 rfl (lv_at hl 2 rfl) ?_
        refine lv_aload_n hx hb dL_law_552 rfl (lv_at hl 3 rfl) ?_
        refine lv_iload_n hx hb dL_law_553 rfl (lv_at hl 0 rfl) ?_
        refine lv_iconst (v := 1) hx hb dL_law_554 (by decide) ?_
        refine lv_iadd hx hb dL_law_555 ?_
        refine tp_i (w := 1) (by decide) ?_
        refine va_sld hx hb hX hbl hbA hS (i_in (by decide) (by decide)) dL_law_556 ?_
        refine tp_i (w := xs 1) rfl ?_
        refine lv_aload_n hx hb dL_law_557 rfl (lv_at hl 3 rfl) ?_
        refine lv_iload_n hx hb dL_law_558 rfl (lv_at hl 0 rfl) ?_
        refine lv_iconst (v := 2) hx hb dL_law_559 (by decide) ?_
        refine lv_iadd hx hb dL_law_560 ?_
        refine tp_i (w := 2) (by decide) ?_
        refine va_sld hx hb hX hbl hbA hS (i_in (by decide) (by decide)) dL_law_561 ?_
        refine tp_i (w := xs 2) rfl ?_
        refine t_ci (va_runV (As := [.int (xs 1), .int (xs 2)]) (rest := []) ⟨hx, hb, hml, hown, hts⟩ (cz_X11_sell l D cA L T r hG hLA.1 σ ρ hB.2.1 _ qx mqx tqx (xs 1) (xs 2) hZ) (cV hts mv_X11_sell mw_4_178 rfl rfl ⟨Nat.le_of_ble_eq_true rfl, Nat.le_of_ble_eq_true rfl⟩) (pV hB.1 hK hN mqx tqx (show shp cA 11 _ _ _ = .inr (11, Fs11 _ _ _) from rfl) rfl) rfl rfl hl.1 rfl (lv_room (Nat.le_of_ble_eq_true rfl)) dL_law_562 ⟨Nat.le_of_ble_eq_true rfl, Nat.le_of_ble_eq_true rfl⟩) hLA hA hB hS (by decide) (fun x_83 σ_81 ρ_82 H locs hB fσ_81 pσ_81 hS => ?_)
        subst pσ_81
        refine lv_aload_n hx hb dL_law_565 rfl (lv_at hl 1 rfl) ?_
        refine lv_aload_n hx hb dL_law_566 rfl (lv_at hl 3 rfl) ?_
        refine lv_iload_n hx hb dL_law_567 rfl (lv_at hl 0 rfl) ?_
        refine lv_iconst (v := 1) hx hb dL_law_568 (by decide) ?_
        refine lv_iadd hx hb dL_law_569 ?_
        refine tp_i (w := 1) (by decide) ?_
        refine va_sld hx hb hX hbl hbA hS (i_in (by decide) (by decide)) dL_law_570 ?_
        refine tp_i (w := xs 1) rfl ?_
        refine lv_aload_n hx hb dL_law_571 rfl (lv_at hl 3 rfl) ?_
        refine lv_iload_n hx hb dL_law_572 rfl (lv_at hl 0 rfl) ?_
        refine lv_iconst (v := 2) hx hb dL_law_573 (by decide) ?_
        refine lv_iadd hx hb dL_law_574 ?_
        refine tp_i (w := 2) (by decide) ?_
        refine va_sld hx hb hX hbl hbA hS (i_in (by decide) (by decide)) dL_law_575 ?_
        refine tp_i (w := xs 2) rfl ?_
        refine t_ci (va_runV (As := [.int (xs 1), .int (xs 2)]) (rest := [.int (-1)]) ⟨hx, hb, hml, hown, hts⟩ (cz_X12_sell l D cA L T r hG hLA.1 σ_81 ρ_82 hB.2.1 _ qm mqm tqm (xs 1) (xs 2) (ZM.of hZ fσ_81 (by decide))) (cV hts mv_X12_sell mw_7_198 rfl rfl ⟨Nat.le_of_ble_eq_true rfl, Nat.le_of_ble_eq_true rfl⟩) (pV hB.1 hK hN mqm tqm (show shp cA 12 _ _ _ = .inr (12, Fs12 _ _ _) from rfl) rfl) rfl rfl hl.1 rfl (lv_room (Nat.le_of_ble_eq_true rfl)) dL_law_576 ⟨Nat.le_of_ble_eq_true rfl, Nat.le_of_ble_eq_true rfl⟩) hLA hA hB hS (by decide) (fun x_86 σ_84 ρ_85 H locs hB fσ_84 pσ_84 hS => ?_)
        subst pσ_84
        refine lv_icmp_eq (tgt := 1240) hx hb dL_law_579 (by decide) (fun _ => ?_) (fun c9 => absurd (by decide) c9)
        refine lv_iinc (v := 6) (lv' := [(3, .int 6), (2, .ref qm), (1, .ref qx), (0, .ref b)]) hx hb dL_law_1240 hl (k := 0) rfl (by decide) (by decide) rfl (fun ls hl => ?_)
        refine lv_goto (tgt := 18) hx hb dL_law_1243 (by decide) ?_
        refine lv_iload_n hx hb dL_law_18 rfl (lv_at hl 0 rfl) ?_
        refine lv_aload_n hx hb dL_law_19 rfl (lv_at hl 3 rfl) ?_
        refine va_slen hx hb hX hbl hbA hS dL_law_20 ?_
        refine tp_i (w := 6) (by decide) ?_
        refine lv_bipush (v := 6) hx hb dL_law_21 (by decide) ?_
        refine lv_isub hx hb dL_law_23 ?_
        refine tp_i (w := 0) (by decide) ?_
        refine lv_icmp_gt (tgt := 1246) hx hb dL_law_24 (by decide) (fun _ => ?_) (fun c9 => absurd (by decide) c9)
        refine lv_iconst (v := 1) hx hb dL_law_1246 (by decide) ?_
        refine va_forget hS.2.2 ?_
        refine W.widen (k := 600000) (n := 7302250) (Nat.le_of_ble_eq_true rfl) (Nat.le_of_ble_eq_true rfl) ?_
        exact lw_ret hx hb hr hlocks dL_law_1247
      · skip
        have c_2x : x_1 = 14 := i_is (by decide) c_2j
        subst c_2x
        refine lv_tableIn (tgt := 584) hx hb dL_law_33 (by decide) (by decide) rfl (by decide) ?_
        refine lv_aload_n hx hb dL_law_584 rfl (lv_at hl 2 rfl) ?_
        refine lv_aload_n hx hb dL_law_585 rfl (lv_at hl 3 rfl) ?_
        refine lv_iload_n hx hb dL_law_586 rfl (lv_at hl 0 rfl) ?_
        refine lv_iconst (v := 1) hx hb dL_law_587 (by decide) ?_
        refine lv_iadd hx hb dL_law_588 ?_
        refine tp_i (w := 1) (by decide) ?_
        refine va_sld hx hb hX hbl hbA hS (i_in (by decide) (by decide)) dL_law_589 ?_
        refine tp_i (w := xs 1) rfl ?_
        refine lv_aload_n hx hb dL_law_590 rfl (lv_at hl 3 rfl) ?_
        refine lv_iload_n hx hb dL_law_591 rfl (lv_at hl 0 rfl) ?_
        refine lv_iconst (v := 2) hx hb dL_law_592 (by decide) ?_
        refine lv_iadd hx hb dL_law_593 ?_
        refine tp_i (w := 2) (by decide) ?_
        refine va_sld hx hb hX hbl hbA hS (i_in (by decide) (by decide)) dL_law_594 ?_
        refine tp_i (w := xs 2) rfl ?_
        refine lv_aload_n hx hb dL_law_595 rfl (lv_at hl 3 rfl) ?_
        refine lv_iload_n hx hb dL_law_596 rfl (lv_at hl 0 rfl) ?_
        refine lv_iconst (v := 3) hx hb dL_law_597 (by decide) ?_
        refine lv_iadd hx hb dL_law_598 ?_
        refine tp_i (w := 3) (by decide) ?_
        refine va_sld hx hb hX hbl hbA hS (i_in (by decide) (by decide)) dL_law_599 ?_
        refine tp_i (w := xs 3) rfl ?_
        refine t_ci (va_runV (As := [.int (xs 1), .int (xs 2), .int (xs 3)]) (rest := []) ⟨hx, hb, hml, hown, hts⟩ (cz_X11_hand l D cA L T r hG hLA.1 σ ρ hB.2.1 _ qx mqx tqx (xs 1) (xs 2) (xs 3) hZ) (cV hts mv_X11_hand mw_4_190 rfl rfl ⟨Nat.le_of_ble_eq_true rfl, Nat.le_of_ble_eq_true rfl⟩) (pV hB.1 hK hN mqx tqx (show shp cA 11 _ _ _ = .inr (11, Fs11 _ _ _) from rfl) rfl) rfl rfl hl.1 rfl (lv_room (Nat.le_of_ble_eq_true rfl)) dL_law_600 ⟨Nat.le_of_ble_eq_true rfl, Nat.le_of_ble_eq_true rfl⟩) hLA hA hB hS (by decide) (fun x_89 σ_87 ρ_88 H locs hB fσ_87 pσ_87 hS => ?_)
        subst pσ_87
        refine lv_aload_n hx hb dL_law_603 rfl (lv_at hl 1 rfl) ?_
        refine lv_aload_n hx hb dL_law_604 rfl (lv_at hl 3 rfl) ?_
        refine lv_iload_n hx hb dL_law_605 rfl (lv_at hl 0 rfl) ?_
        refine lv_iconst (v := 1) hx hb dL_law_606 (by decide) ?_
        refine lv_iadd hx hb dL_law_607 ?_
        refine tp_i (w := 1) (by decide) ?_
        refine va_sld hx hb hX hbl hbA hS (i_in (by decide) (by decide)) dL_law_608 ?_
        refine tp_i (w := xs 1) rfl ?_
        refine lv_aload_n hx hb dL_law_609 rfl (lv_at hl 3 rfl) ?_
        refine lv_iload_n hx hb dL_law_610 rfl (lv_at hl 0 rfl) ?_
        refine lv_iconst (v := 2) hx hb dL_law_611 (by decide) ?_
        refine lv_iadd hx hb dL_law_612 ?_
        refine tp_i (w := 2) (by decide) ?_
        refine va_sld hx hb hX hbl hbA hS (i_in (by decide) (by decide)) dL_law_613 ?_
        refine tp_i (w := xs 2) rfl ?_
        refine lv_aload_n hx hb dL_law_614 rfl (lv_at hl 3 rfl) ?_
        refine lv_iload_n hx hb dL_law_615 rfl (lv_at hl 0 rfl) ?_
        refine lv_iconst (v := 3) hx hb dL_law_616 (by decide) ?_
        refine lv_iadd hx hb dL_law_617 ?_
        refine tp_i (w := 3) (by decide) ?_
        refine va_sld hx hb hX hbl hbA hS (i_in (by decide) (by decide)) dL_law_618 ?_
        refine tp_i (w := xs 3) rfl ?_
        refine t_ci (va_runV (As := [.int (xs 1), .int (xs 2), .int (xs 3)]) (rest := [.int (-1)]) ⟨hx, hb, hml, hown, hts⟩ (cz_X12_hand l D cA L T r hG hLA.1 σ_87 ρ_88 hB.2.1 _ qm mqm tqm (xs 1) (xs 2) (xs 3) (ZM.of hZ fσ_87 (by decide))) (cV hts mv_X12_hand mw_7_202 rfl rfl ⟨Nat.le_of_ble_eq_true rfl, Nat.le_of_ble_eq_true rfl⟩) (pV hB.1 hK hN mqm tqm (show shp cA 12 _ _ _ = .inr (12, Fs12 _ _ _) from rfl) rfl) rfl rfl hl.1 rfl (lv_room (Nat.le_of_ble_eq_true rfl)) dL_law_619 ⟨Nat.le_of_ble_eq_true rfl, Nat.le_of_ble_eq_true rfl⟩) hLA hA hB hS (by decide) (fun x_92 σ_90 ρ_91 H locs hB fσ_90 pσ_90 hS => ?_)
        subst pσ_90
        refine lv_icmp_eq (tgt := 1240) hx hb dL_law_622 (by decide) (fun _ => ?_) (fun c9 => absurd (by decide) c9)
        refine lv_iinc (v := 6) (lv' := [(3, .int 6), (2, .ref qm), (1, .ref qx), (0, .ref b)]) hx hb dL_law_1240 hl (k := 0) rfl (by decide) (by decide) rfl (fun ls hl => ?_)
        refine lv_goto (tgt := 18) hx hb dL_law_1243 (by decide) ?_
        refine lv_iload_n hx hb dL_law_18 rfl (lv_at hl 0 rfl) ?_
        refine lv_aload_n hx hb dL_law_19 rfl (lv_at hl 3 rfl) ?_
        refine va_slen hx hb hX hbl hbA hS dL_law_20 ?_
        refine tp_i (w := 6) (by decide) ?_
        refine lv_bipush (v := 6) hx hb dL_law_21 (by decide) ?_
        refine lv_isub hx hb dL_law_23 ?_
        refine tp_i (w := 0) (by decide) ?_
        refine lv_icmp_gt (tgt := 1246) hx hb dL_law_24 (by decide) (fun _ => ?_) (fun c9 => absurd (by decide) c9)
        refine lv_iconst (v := 1) hx hb dL_law_1246 (by decide) ?_
        refine va_forget hS.2.2 ?_
        refine W.widen (k := 600000) (n := 7302250) (Nat.le_of_ble_eq_true rfl) (Nat.le_of_ble_eq_true rfl) ?_
        exact lw_ret hx hb hr hlocks dL_law_1247
      · skip
        have c_2x : x_1 = 15 := i_is (by decide) c_2j
        subst c_2x
        refine lv_tableIn (tgt := 627) hx hb dL_law_33 (by decide) (by decide) rfl (by decide) ?_
        refine lv_aload_n hx hb dL_law_627 rfl (lv_at hl 2 rfl) ?_
        refine t_ci (va_runV (As := []) (rest := []) ⟨hx, hb, hml, hown, hts⟩ (cz_X11_undo l D cA L T r hG hLA.1 σ ρ hB.2.1 _ qx mqx tqx hZ) (cV hts mv_X11_undo mw_4_199 rfl rfl ⟨Nat.le_of_ble_eq_true rfl, Nat.le_of_ble_eq_true rfl⟩) (pV hB.1 hK hN mqx tqx (show shp cA 11 _ _ _ = .inr (11, Fs11 _ _ _) from rfl) rfl) rfl rfl hl.1 rfl (lv_room (Nat.le_of_ble_eq_true rfl)) dL_law_628 ⟨Nat.le_of_ble_eq_true rfl, Nat.le_of_ble_eq_true rfl⟩) hLA hA hB hS (by decide) (fun x_95 σ_93 ρ_94 H locs hB fσ_93 pσ_93 hS => ?_)
        subst pσ_93
        refine lv_aload_n hx hb dL_law_631 rfl (lv_at hl 1 rfl) ?_
        refine t_ci (va_runV (As := []) (rest := [.int (-1)]) ⟨hx, hb, hml, hown, hts⟩ (cz_X12_undo l D cA L T r hG hLA.1 σ_93 ρ_94 hB.2.1 _ qm mqm tqm (ZM.of hZ fσ_93 (by decide))) (cV hts mv_X12_undo mw_7_115 rfl rfl ⟨Nat.le_of_ble_eq_true rfl, Nat.le_of_ble_eq_true rfl⟩) (pV hB.1 hK hN mqm tqm (show shp cA 12 _ _ _ = .inr (12, Fs12 _ _ _) from rfl) rfl) rfl rfl hl.1 rfl (lv_room (Nat.le_of_ble_eq_true rfl)) dL_law_632 ⟨Nat.le_of_ble_eq_true rfl, Nat.le_of_ble_eq_true rfl⟩) hLA hA hB hS (by decide) (fun x_98 σ_96 ρ_97 H locs hB fσ_96 pσ_96 hS => ?_)
        subst pσ_96
        refine lv_icmp_eq (tgt := 1240) hx hb dL_law_635 (by decide) (fun _ => ?_) (fun c9 => absurd (by decide) c9)
        refine lv_iinc (v := 6) (lv' := [(3, .int 6), (2, .ref qm), (1, .ref qx), (0, .ref b)]) hx hb dL_law_1240 hl (k := 0) rfl (by decide) (by decide) rfl (fun ls hl => ?_)
        refine lv_goto (tgt := 18) hx hb dL_law_1243 (by decide) ?_
        refine lv_iload_n hx hb dL_law_18 rfl (lv_at hl 0 rfl) ?_
        refine lv_aload_n hx hb dL_law_19 rfl (lv_at hl 3 rfl) ?_
        refine va_slen hx hb hX hbl hbA hS dL_law_20 ?_
        refine tp_i (w := 6) (by decide) ?_
        refine lv_bipush (v := 6) hx hb dL_law_21 (by decide) ?_
        refine lv_isub hx hb dL_law_23 ?_
        refine tp_i (w := 0) (by decide) ?_
        refine lv_icmp_gt (tgt := 1246) hx hb dL_law_24 (by decide) (fun _ => ?_) (fun c9 => absurd (by decide) c9)
        refine lv_iconst (v := 1) hx hb dL_law_1246 (by decide) ?_
        refine va_forget hS.2.2 ?_
        refine W.widen (k := 600000) (n := 7302250) (Nat.le_of_ble_eq_true rfl) (Nat.le_of_ble_eq_true rfl) ?_
        exact lw_ret hx hb hr hlocks dL_law_1247
      · skip
        have c_2x : x_1 = 16 := i_is (by decide) c_2j
        subst c_2x
        refine lv_tableIn (tgt := 640) hx hb dL_law_33 (by decide) (by decide) rfl (by decide) ?_
        refine lv_aload_n hx hb dL_law_640 rfl (lv_at hl 2 rfl) ?_
        refine lv_aload_n hx hb dL_law_641 rfl (lv_at hl 3 rfl) ?_
        refine lv_iload_n hx hb dL_law_642 rfl (lv_at hl 0 rfl) ?_
        refine lv_iconst (v := 1) hx hb dL_law_643 (by decide) ?_
        refine lv_iadd hx hb dL_law_644 ?_
        refine tp_i (w := 1) (by decide) ?_
        refine va_sld hx hb hX hbl hbA hS (i_in (by decide) (by decide)) dL_law_645 ?_
        refine tp_i (w := xs 1) rfl ?_
        refine lv_aload_n hx hb dL_law_646 rfl (lv_at hl 3 rfl) ?_
        refine lv_iload_n hx hb dL_law_647 rfl (lv_at hl 0 rfl) ?_
        refine lv_iconst (v := 2) hx hb dL_law_648 (by decide) ?_
        refine lv_iadd hx hb dL_law_649 ?_
        refine tp_i (w := 2) (by decide) ?_
        refine va_sld hx hb hX hbl hbA hS (i_in (by decide) (by decide)) dL_law_650 ?_
        refine tp_i (w := xs 2) rfl ?_
        refine t_ci (va_runV (As := [.int (xs 1), .int (xs 2)]) (rest := []) ⟨hx, hb, hml, hown, hts⟩ (cz_X11_reach l D cA L T r hG hLA.1 σ ρ hB.2.1 _ qx mqx tqx (xs 1) (xs 2) hZ) (cV hts mv_X11_reach mw_4_207 rfl rfl ⟨Nat.le_of_ble_eq_true rfl, Nat.le_of_ble_eq_true rfl⟩) (pV hB.1 hK hN mqx tqx (show shp cA 11 _ _ _ = .inr (11, Fs11 _ _ _) from rfl) rfl) rfl rfl hl.1 rfl (lv_room (Nat.le_of_ble_eq_true rfl)) dL_law_651 ⟨Nat.le_of_ble_eq_true rfl, Nat.le_of_ble_eq_true rfl⟩) hLA hA hB hS (by decide) (fun x_101 σ_99 ρ_100 H locs hB fσ_99 pσ_99 hS => ?_)
        subst pσ_99
        refine lv_aload_n hx hb dL_law_654 rfl (lv_at hl 1 rfl) ?_
        refine lv_aload_n hx hb dL_law_655 rfl (lv_at hl 3 rfl) ?_
        refine lv_iload_n hx hb dL_law_656 rfl (lv_at hl 0 rfl) ?_
        refine lv_iconst (v := 1) hx hb dL_law_657 (by decide) ?_
        refine lv_iadd hx hb dL_law_658 ?_
        refine tp_i (w := 1) (by decide) ?_
        refine va_sld hx hb hX hbl hbA hS (i_in (by decide) (by decide)) dL_law_659 ?_
        refine tp_i (w := xs 1) rfl ?_
        refine lv_aload_n hx hb dL_law_660 rfl (lv_at hl 3 rfl) ?_
        refine lv_iload_n hx hb dL_law_661 rfl (lv_at hl 0 rfl) ?_
        refine lv_iconst (v := 2) hx hb dL_law_662 (by decide) ?_
        refine lv_iadd hx hb dL_law_663 ?_
        refine tp_i (w := 2) (by decide) ?_
        refine va_sld hx hb hX hbl hbA hS (i_in (by decide) (by decide)) dL_law_664 ?_
        refine tp_i (w := xs 2) rfl ?_
        refine t_ci (va_runV (As := [.int (xs 1), .int (xs 2)]) (rest := [.int (-2)]) ⟨hx, hb, hml, hown, hts⟩ (cz_X12_reach l D cA L T r hG hLA.1 σ_99 ρ_100 hB.2.1 _ qm mqm tqm (xs 1) (xs 2) (ZM.of hZ fσ_99 (by decide))) (cV hts mv_X12_reach mw_7_206 rfl rfl ⟨Nat.le_of_ble_eq_true rfl, Nat.le_of_ble_eq_true rfl⟩) (pV hB.1 hK hN mqm tqm (show shp cA 12 _ _ _ = .inr (12, Fs12 _ _ _) from rfl) rfl) rfl rfl hl.1 rfl (lv_room (Nat.le_of_ble_eq_true rfl)) dL_law_665 ⟨Nat.le_of_ble_eq_true rfl, Nat.le_of_ble_eq_true rfl⟩) hLA hA hB hS (by decide) (fun x_104 σ_102 ρ_103 H locs hB fσ_102 pσ_102 hS => ?_)
        subst pσ_102
        refine lv_icmp_eq (tgt := 1240) hx hb dL_law_668 (by decide) (fun _ => ?_) (fun c9 => absurd (by decide) c9)
        refine lv_iinc (v := 6) (lv' := [(3, .int 6), (2, .ref qm), (1, .ref qx), (0, .ref b)]) hx hb dL_law_1240 hl (k := 0) rfl (by decide) (by decide) rfl (fun ls hl => ?_)
        refine lv_goto (tgt := 18) hx hb dL_law_1243 (by decide) ?_
        refine lv_iload_n hx hb dL_law_18 rfl (lv_at hl 0 rfl) ?_
        refine lv_aload_n hx hb dL_law_19 rfl (lv_at hl 3 rfl) ?_
        refine va_slen hx hb hX hbl hbA hS dL_law_20 ?_
        refine tp_i (w := 6) (by decide) ?_
        refine lv_bipush (v := 6) hx hb dL_law_21 (by decide) ?_
        refine lv_isub hx hb dL_law_23 ?_
        refine tp_i (w := 0) (by decide) ?_
        refine lv_icmp_gt (tgt := 1246) hx hb dL_law_24 (by decide) (fun _ => ?_) (fun c9 => absurd (by decide) c9)
        refine lv_iconst (v := 1) hx hb dL_law_1246 (by decide) ?_
        refine va_forget hS.2.2 ?_
        refine W.widen (k := 600000) (n := 7302250) (Nat.le_of_ble_eq_true rfl) (Nat.le_of_ble_eq_true rfl) ?_
        exact lw_ret hx hb hr hlocks dL_law_1247
      · skip
        have c_2x : x_1 = 17 := i_is (by decide) c_2j
        subst c_2x
        refine lv_tableIn (tgt := 673) hx hb dL_law_33 (by decide) (by decide) rfl (by decide) ?_
        refine lv_aload_n hx hb dL_law_673 rfl (lv_at hl 2 rfl) ?_
        refine lv_aload_n hx hb dL_law_674 rfl (lv_at hl 3 rfl) ?_
        refine lv_iload_n hx hb dL_law_675 rfl (lv_at hl 0 rfl) ?_
        refine lv_iconst (v := 1) hx hb dL_law_676 (by decide) ?_
        refine lv_iadd hx hb dL_law_677 ?_
        refine tp_i (w := 1) (by decide) ?_
        refine va_sld hx hb hX hbl hbA hS (i_in (by decide) (by decide)) dL_law_678 ?_
        refine tp_i (w := xs 1) rfl ?_
        refine lv_aload_n hx hb dL_law_679 rfl (lv_at hl 3 rfl) ?_
        refine lv_iload_n hx hb dL_law_680 rfl (lv_at hl 0 rfl) ?_
        refine lv_iconst (v := 2) hx hb dL_law_681 (by decide) ?_
        refine lv_iadd hx hb dL_law_682 ?_
        refine tp_i (w := 2) (by decide) ?_
        refine va_sld hx hb hX hbl hbA hS (i_in (by decide) (by decide)) dL_law_683 ?_
        refine tp_i (w := xs 2) rfl ?_
        refine t_ci (va_runV (As := [.int (xs 1), .int (xs 2)]) (rest := []) ⟨hx, hb, hml, hown, hts⟩ (cz_X11_lacks l D cA L T r hG hLA.1 σ ρ hB.2.1 _ qx mqx tqx (xs 1) (xs 2) hZ) (cV hts mv_X11_lacks mw_4_224 rfl rfl ⟨Nat.le_of_ble_eq_true rfl, Nat.le_of_ble_eq_true rfl⟩) (pV hB.1 hK hN mqx tqx (show shp cA 11 _ _ _ = .inr (11, Fs11 _ _ _) from rfl) rfl) rfl rfl hl.1 rfl (lv_room (Nat.le_of_ble_eq_true rfl)) dL_law_684 ⟨Nat.le_of_ble_eq_true rfl, Nat.le_of_ble_eq_true rfl⟩) hLA hA hB hS (by decide) (fun x_107 σ_105 ρ_106 H locs hB fσ_105 pσ_105 hS => ?_)
        subst pσ_105
        refine lv_aload_n hx hb dL_law_687 rfl (lv_at hl 1 rfl) ?_
        refine lv_aload_n hx hb dL_law_688 rfl (lv_at hl 3 rfl) ?_
        refine lv_iload_n hx hb dL_law_689 rfl (lv_at hl 0 rfl) ?_
        refine lv_iconst (v := 1) hx hb dL_law_690 (by decide) ?_
        refine lv_iadd hx hb dL_law_691 ?_
        refine tp_i (w := 1) (by decide) ?_
        refine va_sld hx hb hX hbl hbA hS (i_in (by decide) (by decide)) dL_law_692 ?_
        refine tp_i (w := xs 1) rfl ?_
        refine lv_aload_n hx hb dL_law_693 rfl (lv_at hl 3 rfl) ?_
        refine lv_iload_n hx hb dL_law_694 rfl (lv_at hl 0 rfl) ?_
        refine lv_iconst (v := 2) hx hb dL_law_695 (by decide) ?_
        refine lv_iadd hx hb dL_law_696 ?_
        refine tp_i (w := 2) (by decide) ?_
        refine va_sld hx hb hX hbl hbA hS (i_in (by decide) (by decide)) dL_law_697 ?_
        refine tp_i (w := xs 2) rfl ?_
        refine t_ci (va_runV (As := [.int (xs 1), .int (xs 2)]) (rest := [.int (-2)]) ⟨hx, hb, hml, hown, hts⟩ (cz_X12_lacks l D cA L T r hG hLA.1 σ_105 ρ_106 hB.2.1 _ qm mqm tqm (xs 1) (xs 2) (ZM.of hZ fσ_105 (by decide))) (cV hts mv_X12_lacks mw_7_210 rfl rfl ⟨Nat.le_of_ble_eq_true rfl, Nat.le_of_ble_eq_true rfl⟩) (pV hB.1 hK hN mqm tqm (show shp cA 12 _ _ _ = .inr (12, Fs12 _ _ _) from rfl) rfl) rfl rfl hl.1 rfl (lv_room (Nat.le_of_ble_eq_true rfl)) dL_law_698 ⟨Nat.le_of_ble_eq_true rfl, Nat.le_of_ble_eq_true rfl⟩) hLA hA hB hS (by decide) (fun x_110 σ_108 ρ_109 H locs hB fσ_108 pσ_108 hS => ?_)
        subst pσ_108
        refine lv_icmp_eq (tgt := 1240) hx hb dL_law_701 (by decide) (fun _ => ?_) (fun c9 => absurd (by decide) c9)
        refine lv_iinc (v := 6) (lv' := [(3, .int 6), (2, .ref qm), (1, .ref qx), (0, .ref b)]) hx hb dL_law_1240 hl (k := 0) rfl (by decide) (by decide) rfl (fun ls hl => ?_)
        refine lv_goto (tgt := 18) hx hb dL_law_1243 (by decide) ?_
        refine lv_iload_n hx hb dL_law_18 rfl (lv_at hl 0 rfl) ?_
        refine lv_aload_n hx hb dL_law_19 rfl (lv_at hl 3 rfl) ?_
        refine va_slen hx hb hX hbl hbA hS dL_law_20 ?_
        refine tp_i (w := 6) (by decide) ?_
        refine lv_bipush (v := 6) hx hb dL_law_21 (by decide) ?_
        refine lv_isub hx hb dL_law_23 ?_
        refine tp_i (w := 0) (by decide) ?_
        refine lv_icmp_gt (tgt := 1246) hx hb dL_law_24 (by decide) (fun _ => ?_) (fun c9 => absurd (by decide) c9)
        refine lv_iconst (v := 1) hx hb dL_law_1246 (by decide) ?_
        refine va_forget hS.2.2 ?_
        refine W.widen (k := 600000) (n := 7302250) (Nat.le_of_ble_eq_true rfl) (Nat.le_of_ble_eq_true rfl) ?_
        exact lw_ret hx hb hr hlocks dL_law_1247
      · skip
        have c_2x : x_1 = 18 := i_is (by decide) c_2j
        subst c_2x
        refine lv_tableIn (tgt := 706) hx hb dL_law_33 (by decide) (by decide) rfl (by decide) ?_
        refine lv_aload_n hx hb dL_law_706 rfl (lv_at hl 2 rfl) ?_
        refine lv_aload_n hx hb dL_law_707 rfl (lv_at hl 3 rfl) ?_
        refine lv_iload_n hx hb dL_law_708 rfl (lv_at hl 0 rfl) ?_
        refine lv_iconst (v := 1) hx hb dL_law_709 (by decide) ?_
        refine lv_iadd hx hb dL_law_710 ?_
        refine tp_i (w := 1) (by decide) ?_
        refine va_sld hx hb hX hbl hbA hS (i_in (by decide) (by decide)) dL_law_711 ?_
        refine tp_i (w := xs 1) rfl ?_
        refine t_ci (va_runV (As := [.int (xs 1)]) (rest := []) ⟨hx, hb, hml, hown, hts⟩ (cz_X11_ways l D cA L T r hG hLA.1 σ ρ hB.2.1 _ qx mqx tqx (xs 1) hZ) (cV hts mv_X11_ways mw_5_5 rfl rfl ⟨Nat.le_of_ble_eq_true rfl, Nat.le_of_ble_eq_true rfl⟩) (pV hB.1 hK hN mqx tqx (show shp cA 11 _ _ _ = .inr (11, Fs11 _ _ _) from rfl) rfl) rfl rfl hl.1 rfl (lv_room (Nat.le_of_ble_eq_true rfl)) dL_law_712 ⟨Nat.le_of_ble_eq_true rfl, Nat.le_of_ble_eq_true rfl⟩) hLA hA hB hS (by decide) (fun x_113 σ_111 ρ_112 H locs hB fσ_111 pσ_111 hS => ?_)
        subst pσ_111
        refine lv_aload_n hx hb dL_law_715 rfl (lv_at hl 1 rfl) ?_
        refine lv_aload_n hx hb dL_law_716 rfl (lv_at hl 3 rfl) ?_
        refine lv_iload_n hx hb dL_law_717 rfl (lv_at hl 0 rfl) ?_
        refine lv_iconst (v := 1) hx hb dL_law_718 (by decide) ?_
        refine lv_iadd hx hb dL_law_719 ?_
        refine tp_i (w := 1) (by decide) ?_
        refine va_sld hx hb hX hbl hbA hS (i_in (by decide) (by decide)) dL_law_720 ?_
        refine tp_i (w := xs 1) rfl ?_
        refine t_ci (va_runV (As := [.int (xs 1)]) (rest := [.int (-1)]) ⟨hx, hb, hml, hown, hts⟩ (cz_X12_ways l D cA L T r hG hLA.1 σ_111 ρ_112 hB.2.1 _ qm mqm tqm (xs 1) (ZM.of hZ fσ_111 (by decide))) (cV hts mv_X12_ways mw_7_222 rfl rfl ⟨Nat.le_of_ble_eq_true rfl, Nat.le_of_ble_eq_true rfl⟩) (pV hB.1 hK hN mqm tqm (show shp cA 12 _ _ _ = .inr (12, Fs12 _ _ _) from rfl) rfl) rfl rfl hl.1 rfl (lv_room (Nat.le_of_ble_eq_true rfl)) dL_law_721 ⟨Nat.le_of_ble_eq_true rfl, Nat.le_of_ble_eq_true rfl⟩) hLA hA hB hS (by decide) (fun x_116 σ_114 ρ_115 H locs hB fσ_114 pσ_114 hS => ?_)
        subst pσ_114
        refine lv_icmp_eq (tgt := 1240) hx hb dL_law_724 (by decide) (fun _ => ?_) (fun c9 => absurd (by decide) c9)
        refine lv_iinc (v := 6) (lv' := [(3, .int 6), (2, .ref qm), (1, .ref qx), (0, .ref b)]) hx hb dL_law_1240 hl (k := 0) rfl (by decide) (by decide) rfl (fun ls hl => ?_)
        refine lv_goto (tgt := 18) hx hb dL_law_1243 (by decide) ?_
        refine lv_iload_n hx hb dL_law_18 rfl (lv_at hl 0 rfl) ?_
        refine lv_aload_n hx hb dL_law_19 rfl (lv_at hl 3 rfl) ?_
        refine va_slen hx hb hX hbl hbA hS dL_law_20 ?_
        refine tp_i (w := 6) (by decide) ?_
        refine lv_bipush (v := 6) hx hb dL_law_21 (by decide) ?_
        refine lv_isub hx hb dL_law_23 ?_
        refine tp_i (w := 0) (by decide) ?_
        refine lv_icmp_gt (tgt := 1246) hx hb dL_law_24 (by decide) (fun _ => ?_) (fun c9 => absurd (by decide) c9)
        refine lv_iconst (v := 1) hx hb dL_law_1246 (by decide) ?_
        refine va_forget hS.2.2 ?_
        refine W.widen (k := 600000) (n := 7302250) (Nat.le_of_ble_eq_true rfl) (Nat.le_of_ble_eq_true rfl) ?_
        exact lw_ret hx hb hr hlocks dL_law_1247
      · skip
        have c_2x : x_1 = 19 := i_is (by decide) c_2j
        subst c_2x
        refine lv_tableIn (tgt := 729) hx hb dL_law_33 (by decide) (by decide) rfl (by decide) ?_
        refine lv_aload_n hx hb dL_law_729 rfl (lv_at hl 2 rfl) ?_
        refine lv_aload_n hx hb dL_law_730 rfl (lv_at hl 3 rfl) ?_
        refine lv_iload_n hx hb dL_law_731 rfl (lv_at hl 0 rfl) ?_
        refine lv_iconst (v := 1) hx hb dL_law_732 (by decide) ?_
        refine lv_iadd hx hb dL_law_733 ?_
        refine tp_i (w := 1) (by decide) ?_
        refine va_sld hx hb hX hbl hbA hS (i_in (by decide) (by decide)) dL_law_734 ?_
        refine tp_i (w := xs 1) rfl ?_
        refine lv_aload_n hx hb dL_law_735 rfl (lv_at hl 3 rfl) ?_
        refine lv_iload_n hx hb dL_law_736 rfl (lv_at hl 0 rfl) ?_
        refine lv_iconst (v := 2) hx hb dL_law_737 (by decide) ?_
        refine lv_iadd hx hb dL_law_738 ?_
        refine tp_i (w := 2) (by decide) ?_
        refine va_sld hx hb hX hbl hbA hS (i_in (by decide) (by decide)) dL_law_739 ?_
        refine tp_i (w := xs 2) rfl ?_
        refine t_ci (va_runV (As := [.int (xs 1), .int (xs 2)]) (rest := []) ⟨hx, hb, hml, hown, hts⟩ (cz_X11_sure l D cA L T r hG hLA.1 σ ρ hB.2.1 _ qx mqx tqx (xs 1) (xs 2) hZ) (cV hts mv_X11_sure mw_5_17 rfl rfl ⟨Nat.le_of_ble_eq_true rfl, Nat.le_of_ble_eq_true rfl⟩) (pV hB.1 hK hN mqx tqx (show shp cA 11 _ _ _ = .inr (11, Fs11 _ _ _) from rfl) rfl) rfl rfl hl.1 rfl (lv_room (Nat.le_of_ble_eq_true rfl)) dL_law_740 ⟨Nat.le_of_ble_eq_true rfl, Nat.le_of_ble_eq_true rfl⟩) hLA hA hB hS (by decide) (fun x_119 σ_117 ρ_118 H locs hB fσ_117 pσ_117 hS => ?_)
        subst pσ_117
        refine lv_aload_n hx hb dL_law_743 rfl (lv_at hl 1 rfl) ?_
        refine lv_aload_n hx hb dL_law_744 rfl (lv_at hl 3 rfl) ?_
        refine lv_iload_n hx hb dL_law_745 rfl (lv_at hl 0 rfl) ?_
        refine lv_iconst (v := 1) hx hb dL_law_746 (by decide) ?_
        refine lv_iadd hx hb dL_law_747 ?_
        refine tp_i (w := 1) (by decide) ?_
        refine va_sld hx hb hX hbl hbA hS (i_in (by decide) (by decide)) dL_law_748 ?_
        refine tp_i (w := xs 1) rfl ?_
        refine lv_aload_n hx hb dL_law_749 rfl (lv_at hl 3 rfl) ?_
        refine lv_iload_n hx hb dL_law_750 rfl (lv_at hl 0 rfl) ?_
        refine lv_iconst (v := 2) hx hb dL_law_751 (by decide) ?_
        refine lv_iadd hx hb dL_law_752 ?_
        refine tp_i (w := 2) (by decide) ?_
        refine va_sld hx hb hX hbl hbA hS (i_in (by decide) (by decide)) dL_law_753 ?_
        refine tp_i (w := xs 2) rfl ?_
        refine t_ci (va_runV (As := [.int (xs 1), .int (xs 2)]) (rest := [.int (-2)]) ⟨hx, hb, hml, hown, hts⟩ (cz_X12_sure l D cA L T r hG hLA.1 σ_117 ρ_118 hB.2.1 _ qm mqm tqm (xs 1) (xs 2) (ZM.of hZ fσ_117 (by decide))) (cV hts mv_X12_sure mw_7_218 rfl rfl ⟨Nat.le_of_ble_eq_true rfl, Nat.le_of_ble_eq_true rfl⟩) (pV hB.1 hK hN mqm tqm (show shp cA 12 _ _ _ = .inr (12, Fs12 _ _ _) from rfl) rfl) rfl rfl hl.1 rfl (lv_room (Nat.le_of_ble_eq_true rfl)) dL_law_754 ⟨Nat.le_of_ble_eq_true rfl, Nat.le_of_ble_eq_true rfl⟩) hLA hA hB hS (by decide) (fun x_122 σ_120 ρ_121 H locs hB fσ_120 pσ_120 hS => ?_)
        subst pσ_120
        refine lv_icmp_eq (tgt := 1240) hx hb dL_law_757 (by decide) (fun _ => ?_) (fun c9 => absurd (by decide) c9)
        refine lv_iinc (v := 6) (lv' := [(3, .int 6), (2, .ref qm), (1, .ref qx), (0, .ref b)]) hx hb dL_law_1240 hl (k := 0) rfl (by decide) (by decide) rfl (fun ls hl => ?_)
        refine lv_goto (tgt := 18) hx hb dL_law_1243 (by decide) ?_
        refine lv_iload_n hx hb dL_law_18 rfl (lv_at hl 0 rfl) ?_
        refine lv_aload_n hx hb dL_law_19 rfl (lv_at hl 3 rfl) ?_
        refine va_slen hx hb hX hbl hbA hS dL_law_20 ?_
        refine tp_i (w := 6) (by decide) ?_
        refine lv_bipush (v := 6) hx hb dL_law_21 (by decide) ?_
        refine lv_isub hx hb dL_law_23 ?_
        refine tp_i (w := 0) (by decide) ?_
        refine lv_icmp_gt (tgt := 1246) hx hb dL_law_24 (by decide) (fun _ => ?_) (fun c9 => absurd (by decide) c9)
        refine lv_iconst (v := 1) hx hb dL_law_1246 (by decide) ?_
        refine va_forget hS.2.2 ?_
        refine W.widen (k := 600000) (n := 7302250) (Nat.le_of_ble_eq_true rfl) (Nat.le_of_ble_eq_true rfl) ?_
        exact lw_ret hx hb hr hlocks dL_law_1247
      · skip
        have c_2x : x_1 = 20 := i_is (by decide) c_2j
        subst c_2x
        refine lv_tableIn (tgt := 762) hx hb dL_law_33 (by decide) (by decide) rfl (by decide) ?_
        refine lv_aload_n hx hb dL_law_762 rfl (lv_at hl 2 rfl) ?_
        refine lv_aload_n hx hb dL_law_763 rfl (lv_at hl 3 rfl) ?_
        refine lv_iload_n hx hb dL_law_764 rfl (lv_at hl 0 rfl) ?_
        refine lv_iconst (v := 1) hx hb dL_law_765 (by decide) ?_
        refine lv_iadd hx hb dL_law_766 ?_
        refine tp_i (w := 1) (by decide) ?_
        refine va_sld hx hb hX hbl hbA hS (i_in (by decide) (by decide)) dL_law_767 ?_
        refine tp_i (w := xs 1) rfl ?_
        refine lv_aload_n hx hb dL_law_768 rfl (lv_at hl 3 rfl) ?_
        refine lv_iload_n hx hb dL_law_769 rfl (lv_at hl 0 rfl) ?_
        refine lv_iconst (v := 2) hx hb dL_law_770 (by decide) ?_
        refine lv_iadd hx hb dL_law_771 ?_
        refine tp_i (w := 2) (by decide) ?_
        refine va_sld hx hb hX hbl hbA hS (i_in (by decide) (by decide)) dL_law_772 ?_
        refine tp_i (w := xs 2) rfl ?_
        refine t_ci (va_runV (As := [.int (xs 1), .int (xs 2)]) (rest := []) ⟨hx, hb, hml, hown, hts⟩ (cz_X11_bag l D cA L T r hG hLA.1 σ ρ hB.2.1 _ qx mqx tqx (xs 1) (xs 2) hZ) (cV hts mv_X11_bag mw_5_25 rfl rfl ⟨Nat.le_of_ble_eq_true rfl, Nat.le_of_ble_eq_true rfl⟩) (pV hB.1 hK hN mqx tqx (show shp cA 11 _ _ _ = .inr (11, Fs11 _ _ _) from rfl) rfl) rfl rfl hl.1 rfl (lv_room (Nat.le_of_ble_eq_true rfl)) dL_law_773 ⟨Nat.le_of_ble_eq_true rfl, Nat.le_of_ble_eq_true rfl⟩) hLA hA hB hS (by decide) (fun x_125 σ_123 ρ_124 H locs hB fσ_123 pσ_123 hS => ?_)
        subst pσ_123
        refine lv_aload_n hx hb dL_law_776 rfl (lv_at hl 1 rfl) ?_
        refine lv_aload_n hx hb dL_law_777 rfl (lv_at hl 3 rfl) ?_
        refine lv_iload_n hx hb dL_law_778 rfl (lv_at hl 0 rfl) ?_
        refine lv_iconst (v := 1) hx hb dL_law_779 (by decide) ?_
        refine lv_iadd hx hb dL_law_780 ?_
        refine tp_i (w := 1) (by decide) ?_
        refine va_sld hx hb hX hbl hbA hS (i_in (by decide) (by decide)) dL_law_781 ?_
        refine tp_i (w := xs 1) rfl ?_
        refine lv_aload_n hx hb dL_law_782 rfl (lv_at hl 3 rfl) ?_
        refine lv_iload_n hx hb dL_law_783 rfl (lv_at hl 0 rfl) ?_
        refine lv_iconst (v := 2) hx hb dL_law_784 (by decide) ?_
        refine lv_iadd hx hb dL_law_785 ?_
        refine tp_i (w := 2) (by decide) ?_
        refine va_sld hx hb hX hbl hbA hS (i_in (by decide) (by decide)) dL_law_786 ?_
        refine tp_i (w := xs 2) rfl ?_
        refine t_ci (va_runV (As := [.int (xs 1), .int (xs 2)]) (rest := [.int (-3)]) ⟨hx, hb, hml, hown, hts⟩ (cz_X12_bag l D cA L T r hG hLA.1 σ_123 ρ_124 hB.2.1 _ qm mqm tqm (xs 1) (xs 2) (ZM.of hZ fσ_123 (by decide))) (cV hts mv_X12_bag mw_8_10 rfl rfl ⟨Nat.le_of_ble_eq_true rfl, Nat.le_of_ble_eq_true rfl⟩) (pV hB.1 hK hN mqm tqm (show shp cA 12 _ _ _ = .inr (12, Fs12 _ _ _) from rfl) rfl) rfl rfl hl.1 rfl (lv_room (Nat.le_of_ble_eq_true rfl)) dL_law_787 ⟨Nat.le_of_ble_eq_true rfl, Nat.le_of_ble_eq_true rfl⟩) hLA hA hB hS (by decide) (fun x_128 σ_126 ρ_127 H locs hB fσ_126 pσ_126 hS => ?_)
        subst pσ_126
        refine lv_icmp_eq (tgt := 1240) hx hb dL_law_790 (by decide) (fun _ => ?_) (fun c9 => absurd (by decide) c9)
        refine lv_iinc (v := 6) (lv' := [(3, .int 6), (2, .ref qm), (1, .ref qx), (0, .ref b)]) hx hb dL_law_1240 hl (k := 0) rfl (by decide) (by decide) rfl (fun ls hl => ?_)
        refine lv_goto (tgt := 18) hx hb dL_law_1243 (by decide) ?_
        refine lv_iload_n hx hb dL_law_18 rfl (lv_at hl 0 rfl) ?_
        refine lv_aload_n hx hb dL_law_19 rfl (lv_at hl 3 rfl) ?_
        refine va_slen hx hb hX hbl hbA hS dL_law_20 ?_
        refine tp_i (w := 6) (by decide) ?_
        refine lv_bipush (v := 6) hx hb dL_law_21 (by decide) ?_
        refine lv_isub hx hb dL_law_23 ?_
        refine tp_i (w := 0) (by decide) ?_
        refine lv_icmp_gt (tgt := 1246) hx hb dL_law_24 (by decide) (fun _ => ?_) (fun c9 => absurd (by decide) c9)
        refine lv_iconst (v := 1) hx hb dL_law_1246 (by decide) ?_
        refine va_forget hS.2.2 ?_
        refine W.widen (k := 600000) (n := 7302250) (Nat.le_of_ble_eq_true rfl) (Nat.le_of_ble_eq_true rfl) ?_
        exact lw_ret hx hb hr hlocks dL_law_1247
      · skip
        have c_2x : x_1 = 21 := i_is (by decide) c_2j
        subst c_2x
        refine lv_tableIn (tgt := 795) hx hb dL_law_33 (by decide) (by decide) rfl (by decide) ?_
        refine lv_aload_n hx hb dL_law_795 rfl (lv_at hl 2 rfl) ?_
        refine lv_aload_n hx hb dL_law_796 rfl (lv_at hl 3 rfl) ?_
        refine lv_iload_n hx hb dL_law_797 rfl (lv_at hl 0 rfl) ?_
        refine lv_iconst (v := 1) hx hb dL_law_798 (by decide) ?_
        refine lv_iadd hx hb dL_law_799 ?_
        refine tp_i (w := 1) (by decide) ?_
        refine va_sld hx hb hX hbl hbA hS (i_in (by decide) (by decide)) dL_law_800 ?_
        refine tp_i (w := xs 1) rfl ?_
        refine lv_aload_n hx hb dL_law_801 rfl (lv_at hl 3 rfl) ?_
        refine lv_iload_n hx hb dL_law_802 rfl (lv_at hl 0 rfl) ?_
        refine lv_iconst (v := 2) hx hb dL_law_803 (by decide) ?_
        refine lv_iadd hx hb dL_law_804 ?_
        refine tp_i (w := 2) (by decide) ?_
        refine va_sld hx hb hX hbl hbA hS (i_in (by decide) (by decide)) dL_law_805 ?_
        refine tp_i (w := xs 2) rfl ?_
        refine t_ci (va_runV (As := [.int (xs 1), .int (xs 2)]) (rest := []) ⟨hx, hb, hml, hown, hts⟩ (cz_X11_both l D cA L T r hG hLA.1 σ ρ hB.2.1 _ qx mqx tqx (xs 1) (xs 2) hZ) (cV hts mv_X11_both mw_5_55 rfl rfl ⟨Nat.le_of_ble_eq_true rfl, Nat.le_of_ble_eq_true rfl⟩) (pV hB.1 hK hN mqx tqx (show shp cA 11 _ _ _ = .inr (11, Fs11 _ _ _) from rfl) rfl) rfl rfl hl.1 rfl (lv_room (Nat.le_of_ble_eq_true rfl)) dL_law_806 ⟨Nat.le_of_ble_eq_true rfl, Nat.le_of_ble_eq_true rfl⟩) hLA hA hB hS (by decide) (fun x_131 σ_129 ρ_130 H locs hB fσ_129 pσ_129 hS => ?_)
        subst pσ_129
        refine lv_aload_n hx hb dL_law_809 rfl (lv_at hl 1 rfl) ?_
        refine lv_aload_n hx hb dL_law_810 rfl (lv_at hl 3 rfl) ?_
        refine lv_iload_n hx hb dL_law_811 rfl (lv_at hl 0 rfl) ?_
        refine lv_iconst (v := 1) hx hb dL_law_812 (by decide) ?_
        refine lv_iadd hx hb dL_law_813 ?_
        refine tp_i (w := 1) (by decide) ?_
        refine va_sld hx hb hX hbl hbA hS (i_in (by decide) (by decide)) dL_law_814 ?_
        refine tp_i (w := xs 1) rfl ?_
        refine lv_aload_n hx hb dL_law_815 rfl (lv_at hl 3 rfl) ?_
        refine lv_iload_n hx hb dL_law_816 rfl (lv_at hl 0 rfl) ?_
        refine lv_iconst (v := 2) hx hb dL_law_817 (by decide) ?_
        refine lv_iadd hx hb dL_law_818 ?_
        refine tp_i (w := 2) (by decide) ?_
        refine va_sld hx hb hX hbl hbA hS (i_in (by decide) (by decide)) dL_law_819 ?_
        refine tp_i (w := xs 2) rfl ?_
        refine t_ci (va_runV (As := [.int (xs 1), .int (xs 2)]) (rest := [.int (-1)]) ⟨hx, hb, hml, hown, hts⟩ (cz_X12_both l D cA L T r hG hLA.1 σ_129 ρ_130 hB.2.1 _ qm mqm tqm (xs 1) (xs 2) (ZM.of hZ fσ_129 (by decide))) (cV hts mv_X12_both mw_7_238 rfl rfl ⟨Nat.le_of_ble_eq_true rfl, Nat.le_of_ble_eq_true rfl⟩) (pV hB.1 hK hN mqm tqm (show shp cA 12 _ _ _ = .inr (12, Fs12 _ _ _) from rfl) rfl) rfl rfl hl.1 rfl (lv_room (Nat.le_of_ble_eq_true rfl)) dL_law_820 ⟨Nat.le_of_ble_eq_true rfl, Nat.le_of_ble_eq_true rfl⟩) hLA hA hB hS (by decide) (fun x_134 σ_132 ρ_133 H locs hB fσ_132 pσ_132 hS => ?_)
        subst pσ_132
        refine lv_icmp_eq (tgt := 1240) hx hb dL_law_823 (by decide) (fun _ => ?_) (fun c9 => absurd (by decide) c9)
        refine lv_iinc (v := 6) (lv' := [(3, .int 6), (2, .ref qm), (1, .ref qx), (0, .ref b)]) hx hb dL_law_1240 hl (k := 0) rfl (by decide) (by decide) rfl (fun ls hl => ?_)
        refine lv_goto (tgt := 18) hx hb dL_law_1243 (by decide) ?_
        refine lv_iload_n hx hb dL_law_18 rfl (lv_at hl 0 rfl) ?_
        refine lv_aload_n hx hb dL_law_19 rfl (lv_at hl 3 rfl) ?_
        refine va_slen hx hb hX hbl hbA hS dL_law_20 ?_
        refine tp_i (w := 6) (by decide) ?_
        refine lv_bipush (v := 6) hx hb dL_law_21 (by decide) ?_
        refine lv_isub hx hb dL_law_23 ?_
        refine tp_i (w := 0) (by decide) ?_
        refine lv_icmp_gt (tgt := 1246) hx hb dL_law_24 (by decide) (fun _ => ?_) (fun c9 => absurd (by decide) c9)
        refine lv_iconst (v := 1) hx hb dL_law_1246 (by decide) ?_
        refine va_forget hS.2.2 ?_
        refine W.widen (k := 600000) (n := 7302250) (Nat.le_of_ble_eq_true rfl) (Nat.le_of_ble_eq_true rfl) ?_
        exact lw_ret hx hb hr hlocks dL_law_1247
      · skip
        have c_2x : x_1 = 22 := i_is (by decide) c_2j
        subst c_2x
        refine lv_tableIn (tgt := 828) hx hb dL_law_33 (by decide) (by decide) rfl (by decide) ?_
        refine lv_aload_n hx hb dL_law_828 rfl (lv_at hl 2 rfl) ?_
        refine lv_aload_n hx hb dL_law_829 rfl (lv_at hl 3 rfl) ?_
        refine lv_iload_n hx hb dL_law_830 rfl (lv_at hl 0 rfl) ?_
        refine lv_iconst (v := 1) hx hb dL_law_831 (by decide) ?_
        refine lv_iadd hx hb dL_law_832 ?_
        refine tp_i (w := 1) (by decide) ?_
        refine va_sld hx hb hX hbl hbA hS (i_in (by decide) (by decide)) dL_law_833 ?_
        refine tp_i (w := xs 1) rfl ?_
        refine lv_aload_n hx hb dL_law_834 rfl (lv_at hl 3 rfl) ?_
        refine lv_iload_n hx hb dL_law_835 rfl (lv_at hl 0 rfl) ?_
        refine lv_iconst (v := 2) hx hb dL_law_836 (by decide) ?_
        refine lv_iadd hx hb dL_law_837 ?_
        refine tp_i (w := 2) (by decide) ?_
        refine va_sld hx hb hX hbl hbA hS (i_in (by decide) (by decide)) dL_law_838 ?_
        refine tp_i (w := xs 2) rfl ?_
        refine t_ci (va_runV (As := [.int (xs 1), .int (xs 2)]) (rest := []) ⟨hx, hb, hml, hown, hts⟩ (cz_X11_partner l D cA L T r hG hLA.1 σ ρ hB.2.1 _ qx mqx tqx (xs 1) (xs 2) hZ) (cV hts mv_X11_partner mw_5_63 rfl rfl ⟨Nat.le_of_ble_eq_true rfl, Nat.le_of_ble_eq_true rfl⟩) (pV hB.1 hK hN mqx tqx (show shp cA 11 _ _ _ = .inr (11, Fs11 _ _ _) from rfl) rfl) rfl rfl hl.1 rfl (lv_room (Nat.le_of_ble_eq_true rfl)) dL_law_839 ⟨Nat.le_of_ble_eq_true rfl, Nat.le_of_ble_eq_true rfl⟩) hLA hA hB hS (by decide) (fun x_137 σ_135 ρ_136 H locs hB fσ_135 pσ_135 hS => ?_)
        subst pσ_135
        refine lv_aload_n hx hb dL_law_842 rfl (lv_at hl 1 rfl) ?_
        refine lv_aload_n hx hb dL_law_843 rfl (lv_at hl 3 rfl) ?_
        refine lv_iload_n hx hb dL_law_844 rfl (lv_at hl 0 rfl) ?_
        refine lv_iconst (v := 1) hx hb dL_law_845 (by decide) ?_
        refine lv_iadd hx hb dL_law_846 ?_
        refine tp_i (w := 1) (by decide) ?_
        refine va_sld hx hb hX hbl hbA hS (i_in (by decide) (by decide)) dL_law_847 ?_
        refine tp_i (w := xs 1) rfl ?_
        refine lv_aload_n hx hb dL_law_848 rfl (lv_at hl 3 rfl) ?_
        refine lv_iload_n hx hb dL_law_849 rfl (lv_at hl 0 rfl) ?_
        refine lv_iconst (v := 2) hx hb dL_law_850 (by decide) ?_
        refine lv_iadd hx hb dL_law_851 ?_
        refine tp_i (w := 2) (by decide) ?_
        refine va_sld hx hb hX hbl hbA hS (i_in (by decide) (by decide)) dL_law_852 ?_
        refine tp_i (w := xs 2) rfl ?_
        refine t_ci (va_runV (As := [.int (xs 1), .int (xs 2)]) (rest := [.int (-1)]) ⟨hx, hb, hml, hown, hts⟩ (cz_X12_partner l D cA L T r hG hLA.1 σ_135 ρ_136 hB.2.1 _ qm mqm tqm (xs 1) (xs 2) (ZM.of hZ fσ_135 (by decide))) (cV hts mv_X12_partner mw_8_6 rfl rfl ⟨Nat.le_of_ble_eq_true rfl, Nat.le_of_ble_eq_true rfl⟩) (pV hB.1 hK hN mqm tqm (show shp cA 12 _ _ _ = .inr (12, Fs12 _ _ _) from rfl) rfl) rfl rfl hl.1 rfl (lv_room (Nat.le_of_ble_eq_true rfl)) dL_law_853 ⟨Nat.le_of_ble_eq_true rfl, Nat.le_of_ble_eq_true rfl⟩) hLA hA hB hS (by decide) (fun x_140 σ_138 ρ_139 H locs hB fσ_138 pσ_138 hS => ?_)
        subst pσ_138
        refine lv_icmp_eq (tgt := 1240) hx hb dL_law_856 (by decide) (fun _ => ?_) (fun c9 => absurd (by decide) c9)
        refine lv_iinc (v := 6) (lv' := [(3, .int 6), (2, .ref qm), (1, .ref qx), (0, .ref b)]) hx hb dL_law_1240 hl (k := 0) rfl (by decide) (by decide) rfl (fun ls hl => ?_)
        refine lv_goto (tgt := 18) hx hb dL_law_1243 (by decide) ?_
        refine lv_iload_n hx hb dL_law_18 rfl (lv_at hl 0 rfl) ?_
        refine lv_aload_n hx hb dL_law_19 rfl (lv_at hl 3 rfl) ?_
        refine va_slen hx hb hX hbl hbA hS dL_law_20 ?_
        refine tp_i (w := 6) (by decide) ?_
        refine lv_bipush (v := 6) hx hb dL_law_21 (by decide) ?_
        refine lv_isub hx hb dL_law_23 ?_
        refine tp_i (w := 0) (by decide) ?_
        refine lv_icmp_gt (tgt := 1246) hx hb dL_law_24 (by decide) (fun _ => ?_) (fun c9 => absurd (by decide) c9)
        refine lv_iconst (v := 1) hx hb dL_law_1246 (by decide) ?_
        refine va_forget hS.2.2 ?_
        refine W.widen (k := 600000) (n := 7302250) (Nat.le_of_ble_eq_true rfl) (Nat.le_of_ble_eq_true rfl) ?_
        exact lw_ret hx hb hr hlocks dL_law_1247
      · skip
        have c_2x : x_1 = 23 := i_is (by decide) c_2j
        subst c_2x
        refine lv_tableIn (tgt := 861) hx hb dL_law_33 (by decide) (by decide) rfl (by decide) ?_
        refine lv_aload_n hx hb dL_law_861 rfl (lv_at hl 2 rfl) ?_
        refine lv_aload_n hx hb dL_law_862 rfl (lv_at hl 3 rfl) ?_
        refine lv_iload_n hx hb dL_law_863 rfl (lv_at hl 0 rfl) ?_
        refine lv_iconst (v := 1) hx hb dL_law_864 (by decide) ?_
        refine lv_iadd hx hb dL_law_865 ?_
        refine tp_i (w := 1) (by decide) ?_
        refine va_sld hx hb hX hbl hbA hS (i_in (by decide) (by decide)) dL_law_866 ?_
        refine tp_i (w := xs 1) rfl ?_
        refine lv_aload_n hx hb dL_law_867 rfl (lv_at hl 3 rfl) ?_
        refine lv_iload_n hx hb dL_law_868 rfl (lv_at hl 0 rfl) ?_
        refine lv_iconst (v := 2) hx hb dL_law_869 (by decide) ?_
        refine lv_iadd hx hb dL_law_870 ?_
        refine tp_i (w := 2) (by decide) ?_
        refine va_sld hx hb hX hbl hbA hS (i_in (by decide) (by decide)) dL_law_871 ?_
        refine tp_i (w := xs 2) rfl ?_
        refine t_ci (va_runV (As := [.int (xs 1), .int (xs 2)]) (rest := []) ⟨hx, hb, hml, hown, hts⟩ (cz_X11_downwards l D cA L T r hG hLA.1 σ ρ hB.2.1 _ qx mqx tqx (xs 1) (xs 2) hZ) (cV hts mv_X11_downwards mw_5_67 rfl rfl ⟨Nat.le_of_ble_eq_true rfl, Nat.le_of_ble_eq_true rfl⟩) (pV hB.1 hK hN mqx tqx (show shp cA 11 _ _ _ = .inr (11, Fs11 _ _ _) from rfl) rfl) rfl rfl hl.1 rfl (lv_room (Nat.le_of_ble_eq_true rfl)) dL_law_872 ⟨Nat.le_of_ble_eq_true rfl, Nat.le_of_ble_eq_true rfl⟩) hLA hA hB hS (by decide) (fun x_143 σ_141 ρ_142 H locs hB fσ_141 pσ_141 hS => ?_)
        subst pσ_141
        refine lv_aload_n hx hb dL_law_875 rfl (lv_at hl 1 rfl) ?_
        refine lv_aload_n hx hb dL_law_876 rfl (lv_at hl 3 rfl) ?_
        refine lv_iload_n hx hb dL_law_877 rfl (lv_at hl 0 rfl) ?_
        refine lv_iconst (v := 1) hx hb dL_law_878 (by decide) ?_
        refine lv_iadd hx hb dL_law_879 ?_
        refine tp_i (w := 1) (by decide) ?_
        refine va_sld hx hb hX hbl hbA hS (i_in (by decide) (by decide)) dL_law_880 ?_
        refine tp_i (w := xs 1) rfl ?_
        refine lv_aload_n hx hb dL_law_881 rfl (lv_at hl 3 rfl) ?_
        refine lv_iload_n hx hb dL_law_882 rfl (lv_at hl 0 rfl) ?_
        refine lv_iconst (v := 2) hx hb dL_law_883 (by decide) ?_
        refine lv_iadd hx hb dL_law_884 ?_
        refine tp_i (w := 2) (by decide) ?_
        refine va_sld hx hb hX hbl hbA hS (i_in (by decide) (by decide)) dL_law_885 ?_
        refine tp_i (w := xs 2) rfl ?_
        refine t_ci (va_runV (As := [.int (xs 1), .int (xs 2)]) (rest := [.int (-2)]) ⟨hx, hb, hml, hown, hts⟩ (cz_X12_downwards l D cA L T r hG hLA.1 σ_141 ρ_142 hB.2.1 _ qm mqm tqm (xs 1) (xs 2) (ZM.of hZ fσ_141 (by decide))) (cV hts mv_X12_downwards mw_8_38 rfl rfl ⟨Nat.le_of_ble_eq_true rfl, Nat.le_of_ble_eq_true rfl⟩) (pV hB.1 hK hN mqm tqm (show shp cA 12 _ _ _ = .inr (12, Fs12 _ _ _) from rfl) rfl) rfl rfl hl.1 rfl (lv_room (Nat.le_of_ble_eq_true rfl)) dL_law_886 ⟨Nat.le_of_ble_eq_true rfl, Nat.le_of_ble_eq_true rfl⟩) hLA hA hB hS (by decide) (fun x_146 σ_144 ρ_145 H locs hB fσ_144 pσ_144 hS => ?_)
        subst pσ_144
        refine lv_icmp_eq (tgt := 1240) hx hb dL_law_889 (by decide) (fun _ => ?_) (fun c9 => absurd (by decide) c9)
        refine lv_iinc (v := 6) (lv' := [(3, .int 6), (2, .ref qm), (1, .ref qx), (0, .ref b)]) hx hb dL_law_1240 hl (k := 0) rfl (by decide) (by decide) rfl (fun ls hl => ?_)
        refine lv_goto (tgt := 18) hx hb dL_law_1243 (by decide) ?_
        refine lv_iload_n hx hb dL_law_18 rfl (lv_at hl 0 rfl) ?_
        refine lv_aload_n hx hb dL_law_19 rfl (lv_at hl 3 rfl) ?_
        refine va_slen hx hb hX hbl hbA hS dL_law_20 ?_
        refine tp_i (w := 6) (by decide) ?_
        refine lv_bipush (v := 6) hx hb dL_law_21 (by decide) ?_
        refine lv_isub hx hb dL_law_23 ?_
        refine tp_i (w := 0) (by decide) ?_
        refine lv_icmp_gt (tgt := 1246) hx hb dL_law_24 (by decide) (fun _ => ?_) (fun c9 => absurd (by decide) c9)
        refine lv_iconst (v := 1) hx hb dL_law_1246 (by decide) ?_
        refine va_forget hS.2.2 ?_
        refine W.widen (k := 600000) (n := 7302250) (Nat.le_of_ble_eq_true rfl) (Nat.le_of_ble_eq_true rfl) ?_
        exact lw_ret hx hb hr hlocks dL_law_1247
      · skip
        have c_2x : x_1 = 24 := i_is (by decide) c_2j
        subst c_2x
        refine lv_tableIn (tgt := 894) hx hb dL_law_33 (by decide) (by decide) rfl (by decide) ?_
        refine lv_aload_n hx hb dL_law_894 rfl (lv_at hl 2 rfl) ?_
        refine lv_aload_n hx hb dL_law_895 rfl (lv_at hl 3 rfl) ?_
        refine lv_iload_n hx hb dL_law_896 rfl (lv_at hl 0 rfl) ?_
        refine lv_iconst (v := 1) hx hb dL_law_897 (by decide) ?_
        refine lv_iadd hx hb dL_law_898 ?_
        refine tp_i (w := 1) (by decide) ?_
        refine va_sld hx hb hX hbl hbA hS (i_in (by decide) (by decide)) dL_law_899 ?_
        refine tp_i (w := xs 1) rfl ?_
        refine lv_aload_n hx hb dL_law_900 rfl (lv_at hl 3 rfl) ?_
        refine lv_iload_n hx hb dL_law_901 rfl (lv_at hl 0 rfl) ?_
        refine lv_iconst (v := 2) hx hb dL_law_902 (by decide) ?_
        refine lv_iadd hx hb dL_law_903 ?_
        refine tp_i (w := 2) (by decide) ?_
        refine va_sld hx hb hX hbl hbA hS (i_in (by decide) (by decide)) dL_law_904 ?_
        refine tp_i (w := xs 2) rfl ?_
        refine t_ci (va_runV (As := [.int (xs 1), .int (xs 2)]) (rest := []) ⟨hx, hb, hml, hown, hts⟩ (cz_X11_less l D cA L T r hG hLA.1 σ ρ hB.2.1 _ qx mqx tqx (xs 1) (xs 2) hZ) (cV hts mv_X11_less mw_5_94 rfl rfl ⟨Nat.le_of_ble_eq_true rfl, Nat.le_of_ble_eq_true rfl⟩) (pV hB.1 hK hN mqx tqx (show shp cA 11 _ _ _ = .inr (11, Fs11 _ _ _) from rfl) rfl) rfl rfl hl.1 rfl (lv_room (Nat.le_of_ble_eq_true rfl)) dL_law_905 ⟨Nat.le_of_ble_eq_true rfl, Nat.le_of_ble_eq_true rfl⟩) hLA hA hB hS (by decide) (fun x_149 σ_147 ρ_148 H locs hB fσ_147 pσ_147 hS => ?_)
        subst pσ_147
        refine lv_aload_n hx hb dL_law_908 rfl (lv_at hl 1 rfl) ?_
        refine lv_aload_n hx hb dL_law_909 rfl (lv_at hl 3 rfl) ?_
        refine lv_iload_n hx hb dL_law_910 rfl (lv_at hl 0 rfl) ?_
        refine lv_iconst (v := 1) hx hb dL_law_911 (by decide) ?_
        refine lv_iadd hx hb dL_law_912 ?_
        refine tp_i (w := 1) (by decide) ?_
        refine va_sld hx hb hX hbl hbA hS (i_in (by decide) (by decide)) dL_law_913 ?_
        refine tp_i (w := xs 1) rfl ?_
        refine lv_aload_n hx hb dL_law_914 rfl (lv_at hl 3 rfl) ?_
        refine lv_iload_n hx hb dL_law_915 rfl (lv_at hl 0 rfl) ?_
        refine lv_iconst (v := 2) hx hb dL_law_916 (by decide) ?_
        refine lv_iadd hx hb dL_law_917 ?_
        refine tp_i (w := 2) (by decide) ?_
        refine va_sld hx hb hX hbl hbA hS (i_in (by decide) (by decide)) dL_law_918 ?_
        refine tp_i (w := xs 2) rfl ?_
        refine t_ci (va_runV (As := [.int (xs 1), .int (xs 2)]) (rest := [.int (-1)]) ⟨hx, hb, hml, hown, hts⟩ (cz_X12_less l D cA L T r hG hLA.1 σ_147 ρ_148 hB.2.1 _ qm mqm tqm (xs 1) (xs 2) (ZM.of hZ fσ_147 (by decide))) (cV hts mv_X12_less mw_7_234 rfl rfl ⟨Nat.le_of_ble_eq_true rfl, Nat.le_of_ble_eq_true rfl⟩) (pV hB.1 hK hN mqm tqm (show shp cA 12 _ _ _ = .inr (12, Fs12 _ _ _) from rfl) rfl) rfl rfl hl.1 rfl (lv_room (Nat.le_of_ble_eq_true rfl)) dL_law_919 ⟨Nat.le_of_ble_eq_true rfl, Nat.le_of_ble_eq_true rfl⟩) hLA hA hB hS (by decide) (fun x_152 σ_150 ρ_151 H locs hB fσ_150 pσ_150 hS => ?_)
        subst pσ_150
        refine lv_icmp_eq (tgt := 1240) hx hb dL_law_922 (by decide) (fun _ => ?_) (fun c9 => absurd (by decide) c9)
        refine lv_iinc (v := 6) (lv' := [(3, .int 6), (2, .ref qm), (1, .ref qx), (0, .ref b)]) hx hb dL_law_1240 hl (k := 0) rfl (by decide) (by decide) rfl (fun ls hl => ?_)
        refine lv_goto (tgt := 18) hx hb dL_law_1243 (by decide) ?_
        refine lv_iload_n hx hb dL_law_18 rfl (lv_at hl 0 rfl) ?_
        refine lv_aload_n hx hb dL_law_19 rfl (lv_at hl 3 rfl) ?_
        refine va_slen hx hb hX hbl hbA hS dL_law_20 ?_
        refine tp_i (w := 6) (by decide) ?_
        refine lv_bipush (v := 6) hx hb dL_law_21 (by decide) ?_
        refine lv_isub hx hb dL_law_23 ?_
        refine tp_i (w := 0) (by decide) ?_
        refine lv_icmp_gt (tgt := 1246) hx hb dL_law_24 (by decide) (fun _ => ?_) (fun c9 => absurd (by decide) c9)
        refine lv_iconst (v := 1) hx hb dL_law_1246 (by decide) ?_
        refine va_forget hS.2.2 ?_
        refine W.widen (k := 600000) (n := 7302250) (Nat.le_of_ble_eq_true rfl) (Nat.le_of_ble_eq_true rfl) ?_
        exact lw_ret hx hb hr hlocks dL_law_1247
      · skip
        have c_2x : x_1 = 25 := i_is (by decide) c_2j
        subst c_2x
        refine lv_tableIn (tgt := 927) hx hb dL_law_33 (by decide) (by decide) rfl (by decide) ?_
        refine lv_aload_n hx hb dL_law_927 rfl (lv_at hl 2 rfl) ?_
        refine lv_aload_n hx hb dL_law_928 rfl (lv_at hl 3 rfl) ?_
        refine lv_iload_n hx hb dL_law_929 rfl (lv_at hl 0 rfl) ?_
        refine lv_iconst (v := 1) hx hb dL_law_930 (by decide) ?_
        refine lv_iadd hx hb dL_law_931 ?_
        refine tp_i (w := 1) (by decide) ?_
        refine va_sld hx hb hX hbl hbA hS (i_in (by decide) (by decide)) dL_law_932 ?_
        refine tp_i (w := xs 1) rfl ?_
        refine t_ci (va_runV (As := [.int (xs 1)]) (rest := []) ⟨hx, hb, hml, hown, hts⟩ (cz_X11_rich l D cA L T r hG hLA.1 σ ρ hB.2.1 _ qx mqx tqx (xs 1) hZ) (cV hts mv_X11_rich mw_5_98 rfl rfl ⟨Nat.le_of_ble_eq_true rfl, Nat.le_of_ble_eq_true rfl⟩) (pV hB.1 hK hN mqx tqx (show shp cA 11 _ _ _ = .inr (11, Fs11 _ _ _) from rfl) rfl) rfl rfl hl.1 rfl (lv_room (Nat.le_of_ble_eq_true rfl)) dL_law_933 ⟨Nat.le_of_ble_eq_true rfl, Nat.le_of_ble_eq_true rfl⟩) hLA hA hB hS (by decide) (fun x_155 σ_153 ρ_154 H locs hB fσ_153 pσ_153 hS => ?_)
        subst pσ_153
        refine lv_aload_n hx hb dL_law_936 rfl (lv_at hl 1 rfl) ?_
        refine lv_aload_n hx hb dL_law_937 rfl (lv_at hl 3 rfl) ?_
        refine lv_iload_n hx hb dL_law_938 rfl (lv_at hl 0 rfl) ?_
        refine lv_iconst (v := 1) hx hb dL_law_939 (by decide) ?_
        refine lv_iadd hx hb dL_law_940 ?_
        refine tp_i (w := 1) (by decide) ?_
        refine va_sld hx hb hX hbl hbA hS (i_in (by decide) (by decide)) dL_law_941 ?_
        refine tp_i (w := xs 1) rfl ?_
        refine t_ci (va_runV (As := [.int (xs 1)]) (rest := [.int (-1)]) ⟨hx, hb, hml, hown, hts⟩ (cz_X12_rich l D cA L T r hG hLA.1 σ_153 ρ_154 hB.2.1 _ qm mqm tqm (xs 1) (ZM.of hZ fσ_153 (by decide))) (cV hts mv_X12_rich mw_8_46 rfl rfl ⟨Nat.le_of_ble_eq_true rfl, Nat.le_of_ble_eq_true rfl⟩) (pV hB.1 hK hN mqm tqm (show shp cA 12 _ _ _ = .inr (12, Fs12 _ _ _) from rfl) rfl) rfl rfl hl.1 rfl (lv_room (Nat.le_of_ble_eq_true rfl)) dL_law_942 ⟨Nat.le_of_ble_eq_true rfl, Nat.le_of_ble_eq_true rfl⟩) hLA hA hB hS (by decide) (fun x_158 σ_156 ρ_157 H locs hB fσ_156 pσ_156 hS => ?_)
        subst pσ_156
        refine lv_icmp_eq (tgt := 1240) hx hb dL_law_945 (by decide) (fun _ => ?_) (fun c9 => absurd (by decide) c9)
        refine lv_iinc (v := 6) (lv' := [(3, .int 6), (2, .ref qm), (1, .ref qx), (0, .ref b)]) hx hb dL_law_1240 hl (k := 0) rfl (by decide) (by decide) rfl (fun ls hl => ?_)
        refine lv_goto (tgt := 18) hx hb dL_law_1243 (by decide) ?_
        refine lv_iload_n hx hb dL_law_18 rfl (lv_at hl 0 rfl) ?_
        refine lv_aload_n hx hb dL_law_19 rfl (lv_at hl 3 rfl) ?_
        refine va_slen hx hb hX hbl hbA hS dL_law_20 ?_
        refine tp_i (w := 6) (by decide) ?_
        refine lv_bipush (v := 6) hx hb dL_law_21 (by decide) ?_
        refine lv_isub hx hb dL_law_23 ?_
        refine tp_i (w := 0) (by decide) ?_
        refine lv_icmp_gt (tgt := 1246) hx hb dL_law_24 (by decide) (fun _ => ?_) (fun c9 => absurd (by decide) c9)
        refine lv_iconst (v := 1) hx hb dL_law_1246 (by decide) ?_
        refine va_forget hS.2.2 ?_
        refine W.widen (k := 600000) (n := 7302250) (Nat.le_of_ble_eq_true rfl) (Nat.le_of_ble_eq_true rfl) ?_
        exact lw_ret hx hb hr hlocks dL_law_1247
      · skip
        have c_2x : x_1 = 26 := i_is (by decide) c_2j
        subst c_2x
        refine lv_tableIn (tgt := 950) hx hb dL_law_33 (by decide) (by decide) rfl (by decide) ?_
        refine lv_aload_n hx hb dL_law_950 rfl (lv_at hl 2 rfl) ?_
        refine lv_aload_n hx hb dL_law_951 rfl (lv_at hl 3 rfl) ?_
        refine lv_iload_n hx hb dL_law_952 rfl (lv_at hl 0 rfl) ?_
        refine lv_iconst (v := 1) hx hb dL_law_953 (by decide) ?_
        refine lv_iadd hx hb dL_law_954 ?_
        refine tp_i (w := 1) (by decide) ?_
        refine va_sld hx hb hX hbl hbA hS (i_in (by decide) (by decide)) dL_law_955 ?_
        refine tp_i (w := xs 1) rfl ?_
        refine lv_aload_n hx hb dL_law_956 rfl (lv_at hl 3 rfl) ?_
        refine lv_iload_n hx hb dL_law_957 rfl (lv_at hl 0 rfl) ?_
        refine lv_iconst (v := 2) hx hb dL_law_958 (by decide) ?_
        refine lv_iadd hx hb dL_law_959 ?_
        refine tp_i (w := 2) (by decide) ?_
        refine va_sld hx hb hX hbl hbA hS (i_in (by decide) (by decide)) dL_law_960 ?_
        refine tp_i (w := xs 2) rfl ?_
        refine t_ci (va_runV (As := [.int (xs 1), .int (xs 2)]) (rest := []) ⟨hx, hb, hml, hown, hts⟩ (cz_X11_leaves l D cA L T r hG hLA.1 σ ρ hB.2.1 _ qx mqx tqx (xs 1) (xs 2) hZ) (cV hts mv_X11_leaves mw_5_106 rfl rfl ⟨Nat.le_of_ble_eq_true rfl, Nat.le_of_ble_eq_true rfl⟩) (pV hB.1 hK hN mqx tqx (show shp cA 11 _ _ _ = .inr (11, Fs11 _ _ _) from rfl) rfl) rfl rfl hl.1 rfl (lv_room (Nat.le_of_ble_eq_true rfl)) dL_law_961 ⟨Nat.le_of_ble_eq_true rfl, Nat.le_of_ble_eq_true rfl⟩) hLA hA hB hS (by decide) (fun x_161 σ_159 ρ_160 H locs hB fσ_159 pσ_159 hS => ?_)
        subst pσ_159
        refine lv_aload_n hx hb dL_law_964 rfl (lv_at hl 1 rfl) ?_
        refine lv_aload_n hx hb dL_law_965 rfl (lv_at hl 3 rfl) ?_
        refine lv_iload_n hx hb dL_law_966 rfl (lv_at hl 0 rfl) ?_
        refine lv_iconst (v := 1) hx hb dL_law_967 (by decide) ?_
        refine lv_iadd hx hb dL_law_968 ?_
        refine tp_i (w := 1) (by decide) ?_
        refine va_sld hx hb hX hbl hbA hS (i_in (by decide) (by decide)) dL_law_969 ?_
        refine tp_i (w := xs 1) rfl ?_
        refine lv_aload_n hx hb dL_law_970 rfl (lv_at hl 3 rfl) ?_
        refine lv_iload_n hx hb dL_law_971 rfl (lv_at hl 0 rfl) ?_
        refine lv_iconst (v := 2) hx hb dL_law_972 (by decide) ?_
        refine lv_iadd hx hb dL_law_973 ?_
        refine tp_i (w := 2) (by decide) ?_
        refine va_sld hx hb hX hbl hbA hS (i_in (by decide) (by decide)) dL_law_974 ?_
        refine tp_i (w := xs 2) rfl ?_
        refine t_ci (va_runV (As := [.int (xs 1), .int (xs 2)]) (rest := [.int (-1)]) ⟨hx, hb, hml, hown, hts⟩ (cz_X12_leaves l D cA L T r hG hLA.1 σ_159 ρ_160 hB.2.1 _ qm mqm tqm (xs 1) (xs 2) (ZM.of hZ fσ_159 (by decide))) (cV hts mv_X12_leaves mw_8_54 rfl rfl ⟨Nat.le_of_ble_eq_true rfl, Nat.le_of_ble_eq_true rfl⟩) (pV hB.1 hK hN mqm tqm (show shp cA 12 _ _ _ = .inr (12, Fs12 _ _ _) from rfl) rfl) rfl rfl hl.1 rfl (lv_room (Nat.le_of_ble_eq_true rfl)) dL_law_975 ⟨Nat.le_of_ble_eq_true rfl, Nat.le_of_ble_eq_true rfl⟩) hLA hA hB hS (by decide) (fun x_164 σ_162 ρ_163 H locs hB fσ_162 pσ_162 hS => ?_)
        subst pσ_162
        refine lv_icmp_eq (tgt := 1240) hx hb dL_law_978 (by decide) (fun _ => ?_) (fun c9 => absurd (by decide) c9)
        refine lv_iinc (v := 6) (lv' := [(3, .int 6), (2, .ref qm), (1, .ref qx), (0, .ref b)]) hx hb dL_law_1240 hl (k := 0) rfl (by decide) (by decide) rfl (fun ls hl => ?_)
        refine lv_goto (tgt := 18) hx hb dL_law_1243 (by decide) ?_
        refine lv_iload_n hx hb dL_law_18 rfl (lv_at hl 0 rfl) ?_
        refine lv_aload_n hx hb dL_law_19 rfl (lv_at hl 3 rfl) ?_
        refine va_slen hx hb hX hbl hbA hS dL_law_20 ?_
        refine tp_i (w := 6) (by decide) ?_
        refine lv_bipush (v := 6) hx hb dL_law_21 (by decide) ?_
        refine lv_isub hx hb dL_law_23 ?_
        refine tp_i (w := 0) (by decide) ?_
        refine lv_icmp_gt (tgt := 1246) hx hb dL_law_24 (by decide) (fun _ => ?_) (fun c9 => absurd (by decide) c9)
        refine lv_iconst (v := 1) hx hb dL_law_1246 (by decide) ?_
        refine va_forget hS.2.2 ?_
        refine W.widen (k := 600000) (n := 7302250) (Nat.le_of_ble_eq_true rfl) (Nat.le_of_ble_eq_true rfl) ?_
        exact lw_ret hx hb hr hlocks dL_law_1247
      · skip
        have c_2x : x_1 = 27 := i_is (by decide) c_2j
        subst c_2x
        refine lv_tableIn (tgt := 983) hx hb dL_law_33 (by decide) (by decide) rfl (by decide) ?_
        refine lv_aload_n hx hb dL_law_983 rfl (lv_at hl 2 rfl) ?_
        refine lv_aload_n hx hb dL_law_984 rfl (lv_at hl 3 rfl) ?_
        refine lv_iload_n hx hb dL_law_985 rfl (lv_at hl 0 rfl) ?_
        refine lv_iconst (v := 1) hx hb dL_law_986 (by decide) ?_
        refine lv_iadd hx hb dL_law_987 ?_
        refine tp_i (w := 1) (by decide) ?_
        refine va_sld hx hb hX hbl hbA hS (i_in (by decide) (by decide)) dL_law_988 ?_
        refine tp_i (w := xs 1) rfl ?_
        refine t_ci (va_runV (As := [.int (xs 1)]) (rest := []) ⟨hx, hb, hml, hown, hts⟩ (cz_X11_gifts l D cA L T r hG hLA.1 σ ρ hB.2.1 _ qx mqx tqx (xs 1) hZ) (cV hts mv_X11_gifts mw_5_110 rfl rfl ⟨Nat.le_of_ble_eq_true rfl, Nat.le_of_ble_eq_true rfl⟩) (pV hB.1 hK hN mqx tqx (show shp cA 11 _ _ _ = .inr (11, Fs11 _ _ _) from rfl) rfl) rfl rfl hl.1 rfl (lv_room (Nat.le_of_ble_eq_true rfl)) dL_law_989 ⟨Nat.le_of_ble_eq_true rfl, Nat.le_of_ble_eq_true rfl⟩) hLA hA hB hS (by decide) (fun x_167 σ_165 ρ_166 H locs hB fσ_165 pσ_165 hS => ?_)
        subst pσ_165
        refine lv_aload_n hx hb dL_law_992 rfl (lv_at hl 1 rfl) ?_
        refine lv_aload_n hx hb dL_law_993 rfl (lv_at hl 3 rfl) ?_
        refine lv_iload_n hx hb dL_law_994 rfl (lv_at hl 0 rfl) ?_
        refine lv_iconst (v := 1) hx hb dL_law_995 (by decide) ?_
        refine lv_iadd hx hb dL_law_996 ?_
        refine tp_i (w := 1) (by decide) ?_
        refine va_sld hx hb hX hbl hbA hS (i_in (by decide) (by decide)) dL_law_997 ?_
        refine tp_i (w := xs 1) rfl ?_
        refine t_ci (va_runV (As := [.int (xs 1)]) (rest := [.int (-3)]) ⟨hx, hb, hml, hown, hts⟩ (cz_X12_gifts l D cA L T r hG hLA.1 σ_165 ρ_166 hB.2.1 _ qm mqm tqm (xs 1) (ZM.of hZ fσ_165 (by decide))) (cV hts mv_X12_gifts mw_8_58 rfl rfl ⟨Nat.le_of_ble_eq_true rfl, Nat.le_of_ble_eq_true rfl⟩) (pV hB.1 hK hN mqm tqm (show shp cA 12 _ _ _ = .inr (12, Fs12 _ _ _) from rfl) rfl) rfl rfl hl.1 rfl (lv_room (Nat.le_of_ble_eq_true rfl)) dL_law_998 ⟨Nat.le_of_ble_eq_true rfl, Nat.le_of_ble_eq_true rfl⟩) hLA hA hB hS (by decide) (fun x_170 σ_168 ρ_169 H locs hB fσ_168 pσ_168 hS => ?_)
        subst pσ_168
        refine lv_icmp_eq (tgt := 1240) hx hb dL_law_1001 (by decide) (fun _ => ?_) (fun c9 => absurd (by decide) c9)
        refine lv_iinc (v := 6) (lv' := [(3, .int 6), (2, .ref qm), (1, .ref qx), (0, .ref b)]) hx hb dL_law_1240 hl (k := 0) rfl (by decide) (by decide) rfl (fun ls hl => ?_)
        refine lv_goto (tgt := 18) hx hb dL_law_1243 (by decide) ?_
        refine lv_iload_n hx hb dL_law_18 rfl (lv_at hl 0 rfl) ?_
        refine lv_aload_n hx hb dL_law_19 rfl (lv_at hl 3 rfl) ?_
        refine va_slen hx hb hX hbl hbA hS dL_law_20 ?_
        refine tp_i (w := 6) (by decide) ?_
        refine lv_bipush (v := 6) hx hb dL_law_21 (by decide) ?_
        refine lv_isub hx hb dL_law_23 ?_
        refine tp_i (w := 0) (by decide) ?_
        refine lv_icmp_gt (tgt := 1246) hx hb dL_law_24 (by decide) (fun _ => ?_) (fun c9 => absurd (by decide) c9)
        refine lv_iconst (v := 1) hx hb dL_law_1246 (by decide) ?_
        refine va_forget hS.2.2 ?_
        refine W.widen (k := 600000) (n := 7302250) (Nat.le_of_ble_eq_true rfl) (Nat.le_of_ble_eq_true rfl) ?_
        exact lw_ret hx hb hr hlocks dL_law_1247
      · skip
        have c_2x : x_1 = 28 := i_is (by decide) c_2j
        subst c_2x
        refine lv_tableIn (tgt := 1006) hx hb dL_law_33 (by decide) (by decide) rfl (by decide) ?_
        refine lv_aload_n hx hb dL_law_1006 rfl (lv_at hl 2 rfl) ?_
        refine lv_aload_n hx hb dL_law_1007 rfl (lv_at hl 3 rfl) ?_
        refine lv_iload_n hx hb dL_law_1008 rfl (lv_at hl 0 rfl) ?_
        refine lv_iconst (v := 1) hx hb dL_law_1009 (by decide) ?_
        refine lv_iadd hx hb dL_law_1010 ?_
        refine tp_i (w := 1) (by decide) ?_
        refine va_sld hx hb hX hbl hbA hS (i_in (by decide) (by decide)) dL_law_1011 ?_
        refine tp_i (w := xs 1) rfl ?_
        refine lv_aload_n hx hb dL_law_1012 rfl (lv_at hl 3 rfl) ?_
        refine lv_iload_n hx hb dL_law_1013 rfl (lv_at hl 0 rfl) ?_
        refine lv_iconst (v := 2) hx hb dL_law_1014 (by decide) ?_
        refine lv_iadd hx hb dL_law_1015 ?_
        refine tp_i (w := 2) (by decide) ?_
        refine va_sld hx hb hX hbl hbA hS (i_in (by decide) (by decide)) dL_law_1016 ?_
        refine tp_i (w := xs 2) rfl ?_
        refine lv_aload_n hx hb dL_law_1017 rfl (lv_at hl 3 rfl) ?_
        refine lv_iload_n hx hb dL_law_1018 rfl (lv_at hl 0 rfl) ?_
        refine lv_iconst (v := 3) hx hb dL_law_1019 (by decide) ?_
        refine lv_iadd hx hb dL_law_1020 ?_
        refine tp_i (w := 3) (by decide) ?_
        refine va_sld hx hb hX hbl hbA hS (i_in (by decide) (by decide)) dL_law_1021 ?_
        refine tp_i (w := xs 3) rfl ?_
        refine t_ci (va_runV (As := [.int (xs 1), .int (xs 2), .int (xs 3)]) (rest := []) ⟨hx, hb, hml, hown, hts⟩ (cz_X11_note l D cA L T r hG hLA.1 σ ρ hB.2.1 _ qx mqx tqx (xs 1) (xs 2) (xs 3) hZ) (cV hts mv_X11_note mw_5_123 rfl rfl ⟨Nat.le_of_ble_eq_true rfl, Nat.le_of_ble_eq_true rfl⟩) (pV hB.1 hK hN mqx tqx (show shp cA 11 _ _ _ = .inr (11, Fs11 _ _ _) from rfl) rfl) rfl rfl hl.1 rfl (lv_room (Nat.le_of_ble_eq_true rfl)) dL_law_1022 ⟨Nat.le_of_ble_eq_true rfl, Nat.le_of_ble_eq_true rfl⟩) hLA hA hB hS (by decide) (fun x_173 σ_171 ρ_172 H locs hB fσ_171 pσ_171 hS => ?_)
        refine lv_aload_n hx hb dL_law_1025 rfl (lv_at hl 1 rfl) ?_
        refine lv_aload_n hx hb dL_law_1026 rfl (lv_at hl 3 rfl) ?_
        refine lv_iload_n hx hb dL_law_1027 rfl (lv_at hl 0 rfl) ?_
        refine lv_iconst (v := 1) hx hb dL_law_1028 (by decide) ?_
        refine lv_iadd hx hb dL_law_1029 ?_
        refine tp_i (w := 1) (by decide) ?_
        refine va_sld hx hb hX hbl hbA hS (i_in (by decide) (by decide)) dL_law_1030 ?_
        refine tp_i (w := xs 1) rfl ?_
        refine lv_aload_n hx hb dL_law_1031 rfl (lv_at hl 3 rfl) ?_
        refine lv_iload_n hx hb dL_law_1032 rfl (lv_at hl 0 rfl) ?_
        refine lv_iconst (v := 2) hx hb dL_law_1033 (by decide) ?_
        refine lv_iadd hx hb dL_law_1034 ?_
        refine tp_i (w := 2) (by decide) ?_
        refine va_sld hx hb hX hbl hbA hS (i_in (by decide) (by decide)) dL_law_1035 ?_
        refine tp_i (w := xs 2) rfl ?_
        refine lv_aload_n hx hb dL_law_1036 rfl (lv_at hl 3 rfl) ?_
        refine lv_iload_n hx hb dL_law_1037 rfl (lv_at hl 0 rfl) ?_
        refine lv_iconst (v := 3) hx hb dL_law_1038 (by decide) ?_
        refine lv_iadd hx hb dL_law_1039 ?_
        refine tp_i (w := 3) (by decide) ?_
        refine va_sld hx hb hX hbl hbA hS (i_in (by decide) (by decide)) dL_law_1040 ?_
        refine tp_i (w := xs 3) rfl ?_
        refine t_ci (va_runV (As := [.int (xs 1), .int (xs 2), .int (xs 3)]) (rest := [.int x_173]) ⟨hx, hb, hml, hown, hts⟩ (cz_X12_note l D cA L T r hG hLA.1 σ_171 ρ_172 hB.2.1 _ qm mqm tqm (xs 1) (xs 2) (xs 3) (ZM.of hZ fσ_171 (by decide))) (cV hts mv_X12_note mw_8_73 rfl rfl ⟨Nat.le_of_ble_eq_true rfl, Nat.le_of_ble_eq_true rfl⟩) (pV hB.1 hK hN mqm tqm (show shp cA 12 _ _ _ = .inr (12, Fs12 _ _ _) from rfl) rfl) rfl rfl hl.1 rfl (lv_room (Nat.le_of_ble_eq_true rfl)) dL_law_1041 ⟨Nat.le_of_ble_eq_true rfl, Nat.le_of_ble_eq_true rfl⟩) hLA hA hB hS (by decide) (fun x_176 σ_174 ρ_175 H locs hB fσ_174 pσ_174 hS => ?_)
        refine lv_icmp_eq (tgt := 1240) hx hb dL_law_1044 (by decide) (fun _ => ?_) (fun c9 => absurd (pσ_171.trans pσ_174.symm) c9)
        refine lv_iinc (v := 6) (lv' := [(3, .int 6), (2, .ref qm), (1, .ref qx), (0, .ref b)]) hx hb dL_law_1240 hl (k := 0) rfl (by decide) (by decide) rfl (fun ls hl => ?_)
        refine lv_goto (tgt := 18) hx hb dL_law_1243 (by decide) ?_
        refine lv_iload_n hx hb dL_law_18 rfl (lv_at hl 0 rfl) ?_
        refine lv_aload_n hx hb dL_law_19 rfl (lv_at hl 3 rfl) ?_
        refine va_slen hx hb hX hbl hbA hS dL_law_20 ?_
        refine tp_i (w := 6) (by decide) ?_
        refine lv_bipush (v := 6) hx hb dL_law_21 (by decide) ?_
        refine lv_isub hx hb dL_law_23 ?_
        refine tp_i (w := 0) (by decide) ?_
        refine lv_icmp_gt (tgt := 1246) hx hb dL_law_24 (by decide) (fun _ => ?_) (fun c9 => absurd (by decide) c9)
        refine lv_iconst (v := 1) hx hb dL_law_1246 (by decide) ?_
        refine va_forget hS.2.2 ?_
        refine W.widen (k := 600000) (n := 7302250) (Nat.le_of_ble_eq_true rfl) (Nat.le_of_ble_eq_true rfl) ?_
        exact lw_ret hx hb hr hlocks dL_law_1247
      · skip
        have c_2x : x_1 = 29 := i_is (by decide) c_2j
        subst c_2x
        refine lv_tableIn (tgt := 1049) hx hb dL_law_33 (by decide) (by decide) rfl (by decide) ?_
        refine lv_aload_n hx hb dL_law_1049 rfl (lv_at hl 2 rfl) ?_
        refine lv_aload_n hx hb dL_law_1050 rfl (lv_at hl 3 rfl) ?_
        refine lv_iload_n hx hb dL_law_1051 rfl (lv_at hl 0 rfl) ?_
        refine lv_iconst (v := 1) hx hb dL_law_1052 (by decide) ?_
        refine lv_iadd hx hb dL_law_1053 ?_
        refine tp_i (w := 1) (by decide) ?_
        refine va_sld hx hb hX hbl hbA hS (i_in (by decide) (by decide)) dL_law_1054 ?_
        refine tp_i (w := xs 1) rfl ?_
        refine t_ci (va_runV (As := [.int (xs 1)]) (rest := []) ⟨hx, hb, hml, hown, hts⟩ (cz_X11_ruled l D cA L T r hG hLA.1 σ ρ hB.2.1 _ qx mqx tqx (xs 1) hZ) (cV hts mv_X11_ruled mw_5_127 rfl rfl ⟨Nat.le_of_ble_eq_true rfl, Nat.le_of_ble_eq_true rfl⟩) (pV hB.1 hK hN mqx tqx (show shp cA 11 _ _ _ = .inr (11, Fs11 _ _ _) from rfl) rfl) rfl rfl hl.1 rfl (lv_room (Nat.le_of_ble_eq_true rfl)) dL_law_1055 ⟨Nat.le_of_ble_eq_true rfl, Nat.le_of_ble_eq_true rfl⟩) hLA hA hB hS (by decide) (fun x_179 σ_177 ρ_178 H locs hB fσ_177 pσ_177 hS => ?_)
        subst pσ_177
        refine lv_aload_n hx hb dL_law_1058 rfl (lv_at hl 1 rfl) ?_
        refine lv_aload_n hx hb dL_law_1059 rfl (lv_at hl 3 rfl) ?_
        refine lv_iload_n hx hb dL_law_1060 rfl (lv_at hl 0 rfl) ?_
        refine lv_iconst (v := 1) hx hb dL_law_1061 (by decide) ?_
        refine lv_iadd hx hb dL_law_1062 ?_
        refine tp_i (w := 1) (by decide) ?_
        refine va_sld hx hb hX hbl hbA hS (i_in (by decide) (by decide)) dL_law_1063 ?_
        refine tp_i (w := xs 1) rfl ?_
        refine t_ci (va_runV (As := [.int (xs 1)]) (rest := [.int (-3)]) ⟨hx, hb, hml, hown, hts⟩ (cz_X12_ruled l D cA L T r hG hLA.1 σ_177 ρ_178 hB.2.1 _ qm mqm tqm (xs 1) (ZM.of hZ fσ_177 (by decide))) (cV hts mv_X12_ruled mw_8_78 rfl rfl ⟨Nat.le_of_ble_eq_true rfl, Nat.le_of_ble_eq_true rfl⟩) (pV hB.1 hK hN mqm tqm (show shp cA 12 _ _ _ = .inr (12, Fs12 _ _ _) from rfl) rfl) rfl rfl hl.1 rfl (lv_room (Nat.le_of_ble_eq_true rfl)) dL_law_1064 ⟨Nat.le_of_ble_eq_true rfl, Nat.le_of_ble_eq_true rfl⟩) hLA hA hB hS (by decide) (fun x_182 σ_180 ρ_181 H locs hB fσ_180 pσ_180 hS => ?_)
        subst pσ_180
        refine lv_icmp_eq (tgt := 1240) hx hb dL_law_1067 (by decide) (fun _ => ?_) (fun c9 => absurd (by decide) c9)
        refine lv_iinc (v := 6) (lv' := [(3, .int 6), (2, .ref qm), (1, .ref qx), (0, .ref b)]) hx hb dL_law_1240 hl (k := 0) rfl (by decide) (by decide) rfl (fun ls hl => ?_)
        refine lv_goto (tgt := 18) hx hb dL_law_1243 (by decide) ?_
        refine lv_iload_n hx hb dL_law_18 rfl (lv_at hl 0 rfl) ?_
        refine lv_aload_n hx hb dL_law_19 rfl (lv_at hl 3 rfl) ?_
        refine va_slen hx hb hX hbl hbA hS dL_law_20 ?_
        refine tp_i (w := 6) (by decide) ?_
        refine lv_bipush (v := 6) hx hb dL_law_21 (by decide) ?_
        refine lv_isub hx hb dL_law_23 ?_
        refine tp_i (w := 0) (by decide) ?_
        refine lv_icmp_gt (tgt := 1246) hx hb dL_law_24 (by decide) (fun _ => ?_) (fun c9 => absurd (by decide) c9)
        refine lv_iconst (v := 1) hx hb dL_law_1246 (by decide) ?_
        refine va_forget hS.2.2 ?_
        refine W.widen (k := 600000) (n := 7302250) (Nat.le_of_ble_eq_true rfl) (Nat.le_of_ble_eq_true rfl) ?_
        exact lw_ret hx hb hr hlocks dL_law_1247
      · skip
        have c_2x : x_1 = 30 := i_is (by decide) c_2j
        subst c_2x
        refine lv_tableIn (tgt := 1072) hx hb dL_law_33 (by decide) (by decide) rfl (by decide) ?_
        refine lv_aload_n hx hb dL_law_1072 rfl (lv_at hl 2 rfl) ?_
        refine lv_aload_n hx hb dL_law_1073 rfl (lv_at hl 3 rfl) ?_
        refine lv_iload_n hx hb dL_law_1074 rfl (lv_at hl 0 rfl) ?_
        refine lv_iconst (v := 1) hx hb dL_law_1075 (by decide) ?_
        refine lv_iadd hx hb dL_law_1076 ?_
        refine tp_i (w := 1) (by decide) ?_
        refine va_sld hx hb hX hbl hbA hS (i_in (by decide) (by decide)) dL_law_1077 ?_
        refine tp_i (w := xs 1) rfl ?_
        refine lv_aload_n hx hb dL_law_1078 rfl (lv_at hl 3 rfl) ?_
        refine lv_iload_n hx hb dL_law_1079 rfl (lv_at hl 0 rfl) ?_
        refine lv_iconst (v := 2) hx hb dL_law_1080 (by decide) ?_
        refine lv_iadd hx hb dL_law_1081 ?_
        refine tp_i (w := 2) (by decide) ?_
        refine va_sld hx hb hX hbl hbA hS (i_in (by decide) (by decide)) dL_law_1082 ?_
        refine tp_i (w := xs 2) rfl ?_
        refine t_ci (va_runV (As := [.int (xs 1), .int (xs 2)]) (rest := []) ⟨hx, hb, hml, hown, hts⟩ (cz_X11_look l D cA L T r hG hLA.1 σ ρ hB.2.1 _ qx mqx tqx (xs 1) (xs 2) hZ) (cV hts mv_X11_look mw_5_152 rfl rfl ⟨Nat.le_of_ble_eq_true rfl, Nat.le_of_ble_eq_true rfl⟩) (pV hB.1 hK hN mqx tqx (show shp cA 11 _ _ _ = .inr (11, Fs11 _ _ _) from rfl) rfl) rfl rfl hl.1 rfl (lv_room (Nat.le_of_ble_eq_true rfl)) dL_law_1083 ⟨Nat.le_of_ble_eq_true rfl, Nat.le_of_ble_eq_true rfl⟩) hLA hA hB hS (by decide) (fun x_185 σ_183 ρ_184 H locs hB fσ_183 pσ_183 hS => ?_)
        subst pσ_183
        refine lv_aload_n hx hb dL_law_1086 rfl (lv_at hl 1 rfl) ?_
        refine lv_aload_n hx hb dL_law_1087 rfl (lv_at hl 3 rfl) ?_
        refine lv_iload_n hx hb dL_law_1088 rfl (lv_at hl 0 rfl) ?_
        refine lv_iconst (v := 1) hx hb dL_law_1089 (by decide) ?_
        refine lv_iadd hx hb dL_law_1090 ?_
        refine tp_i (w := 1) (by decide) ?_
        refine va_sld hx hb hX hbl hbA hS (i_in (by decide) (by decide)) dL_law_1091 ?_
        refine tp_i (w := xs 1) rfl ?_
        refine lv_aload_n hx hb dL_law_1092 rfl (lv_at hl 3 rfl) ?_
        refine lv_iload_n hx hb dL_law_1093 rfl (lv_at hl 0 rfl) ?_
        refine lv_iconst (v := 2) hx hb dL_law_1094 (by decide) ?_
        refine lv_iadd hx hb dL_law_1095 ?_
        refine tp_i (w := 2) (by decide) ?_
        refine va_sld hx hb hX hbl hbA hS (i_in (by decide) (by decide)) dL_law_1096 ?_
        refine tp_i (w := xs 2) rfl ?_
        refine t_ci (va_runV (As := [.int (xs 1), .int (xs 2)]) (rest := [.int (-1)]) ⟨hx, hb, hml, hown, hts⟩ (cz_X12_look l D cA L T r hG hLA.1 σ_183 ρ_184 hB.2.1 _ qm mqm tqm (xs 1) (xs 2) (ZM.of hZ fσ_183 (by decide))) (cV hts mv_X12_look mw_8_102 rfl rfl ⟨Nat.le_of_ble_eq_true rfl, Nat.le_of_ble_eq_true rfl⟩) (pV hB.1 hK hN mqm tqm (show shp cA 12 _ _ _ = .inr (12, Fs12 _ _ _) from rfl) rfl) rfl rfl hl.1 rfl (lv_room (Nat.le_of_ble_eq_true rfl)) dL_law_1097 ⟨Nat.le_of_ble_eq_true rfl, Nat.le_of_ble_eq_true rfl⟩) hLA hA hB hS (by decide) (fun x_188 σ_186 ρ_187 H locs hB fσ_186 pσ_186 hS => ?_)
        subst pσ_186
        refine lv_icmp_eq (tgt := 1240) hx hb dL_law_1100 (by decide) (fun _ => ?_) (fun c9 => absurd (by decide) c9)
        refine lv_iinc (v := 6) (lv' := [(3, .int 6), (2, .ref qm), (1, .ref qx), (0, .ref b)]) hx hb dL_law_1240 hl (k := 0) rfl (by decide) (by decide) rfl (fun ls hl => ?_)
        refine lv_goto (tgt := 18) hx hb dL_law_1243 (by decide) ?_
        refine lv_iload_n hx hb dL_law_18 rfl (lv_at hl 0 rfl) ?_
        refine lv_aload_n hx hb dL_law_19 rfl (lv_at hl 3 rfl) ?_
        refine va_slen hx hb hX hbl hbA hS dL_law_20 ?_
        refine tp_i (w := 6) (by decide) ?_
        refine lv_bipush (v := 6) hx hb dL_law_21 (by decide) ?_
        refine lv_isub hx hb dL_law_23 ?_
        refine tp_i (w := 0) (by decide) ?_
        refine lv_icmp_gt (tgt := 1246) hx hb dL_law_24 (by decide) (fun _ => ?_) (fun c9 => absurd (by decide) c9)
        refine lv_iconst (v := 1) hx hb dL_law_1246 (by decide) ?_
        refine va_forget hS.2.2 ?_
        refine W.widen (k := 600000) (n := 7302250) (Nat.le_of_ble_eq_true rfl) (Nat.le_of_ble_eq_true rfl) ?_
        exact lw_ret hx hb hr hlocks dL_law_1247
      · skip
        have c_2x : x_1 = 31 := i_is (by decide) c_2j
        subst c_2x
        refine lv_tableIn (tgt := 1105) hx hb dL_law_33 (by decide) (by decide) rfl (by decide) ?_
        refine lv_aload_n hx hb dL_law_1105 rfl (lv_at hl 2 rfl) ?_
        refine lv_aload_n hx hb dL_law_1106 rfl (lv_at hl 3 rfl) ?_
        refine lv_iload_n hx hb dL_law_1107 rfl (lv_at hl 0 rfl) ?_
        refine lv_iconst (v := 1) hx hb dL_law_1108 (by decide) ?_
        refine lv_iadd hx hb dL_law_1109 ?_
        refine tp_i (w := 1) (by decide) ?_
        refine va_sld hx hb hX hbl hbA hS (i_in (by decide) (by decide)) dL_law_1110 ?_
        refine tp_i (w := xs 1) rfl ?_
        refine t_ci (va_runV (As := [.int (xs 1)]) (rest := []) ⟨hx, hb, hml, hown, hts⟩ (cz_X11_seed l D cA L T r hG hLA.1 σ ρ hB.2.1 _ qx mqx tqx (xs 1) hZ) (cV hts mv_X11_seed mw_5_161 rfl rfl ⟨Nat.le_of_ble_eq_true rfl, Nat.le_of_ble_eq_true rfl⟩) (pV hB.1 hK hN mqx tqx (show shp cA 11 _ _ _ = .inr (11, Fs11 _ _ _) from rfl) rfl) rfl rfl hl.1 rfl (lv_room (Nat.le_of_ble_eq_true rfl)) dL_law_1111 ⟨Nat.le_of_ble_eq_true rfl, Nat.le_of_ble_eq_true rfl⟩) hLA hA hB hS (by decide) (fun x_191 σ_189 ρ_190 H locs hB fσ_189 pσ_189 hS => ?_)
        refine lv_aload_n hx hb dL_law_1114 rfl (lv_at hl 1 rfl) ?_
        refine lv_aload_n hx hb dL_law_1115 rfl (lv_at hl 3 rfl) ?_
        refine lv_iload_n hx hb dL_law_1116 rfl (lv_at hl 0 rfl) ?_
        refine lv_iconst (v := 1) hx hb dL_law_1117 (by decide) ?_
        refine lv_iadd hx hb dL_law_1118 ?_
        refine tp_i (w := 1) (by decide) ?_
        refine va_sld hx hb hX hbl hbA hS (i_in (by decide) (by decide)) dL_law_1119 ?_
        refine tp_i (w := xs 1) rfl ?_
        refine t_ci (va_runV (As := [.int (xs 1)]) (rest := [.int x_191]) ⟨hx, hb, hml, hown, hts⟩ (cz_X12_seed l D cA L T r hG hLA.1 σ_189 ρ_190 hB.2.1 _ qm mqm tqm (xs 1) (ZM.of hZ fσ_189 (by decide))) (cV hts mv_X12_seed mw_8_110 rfl rfl ⟨Nat.le_of_ble_eq_true rfl, Nat.le_of_ble_eq_true rfl⟩) (pV hB.1 hK hN mqm tqm (show shp cA 12 _ _ _ = .inr (12, Fs12 _ _ _) from rfl) rfl) rfl rfl hl.1 rfl (lv_room (Nat.le_of_ble_eq_true rfl)) dL_law_1120 ⟨Nat.le_of_ble_eq_true rfl, Nat.le_of_ble_eq_true rfl⟩) hLA hA hB hS (by decide) (fun x_194 σ_192 ρ_193 H locs hB fσ_192 pσ_192 hS => ?_)
        refine lv_icmp_eq (tgt := 1240) hx hb dL_law_1123 (by decide) (fun _ => ?_) (fun c9 => absurd (pσ_189.trans pσ_192.symm) c9)
        refine lv_iinc (v := 6) (lv' := [(3, .int 6), (2, .ref qm), (1, .ref qx), (0, .ref b)]) hx hb dL_law_1240 hl (k := 0) rfl (by decide) (by decide) rfl (fun ls hl => ?_)
        refine lv_goto (tgt := 18) hx hb dL_law_1243 (by decide) ?_
        refine lv_iload_n hx hb dL_law_18 rfl (lv_at hl 0 rfl) ?_
        refine lv_aload_n hx hb dL_law_19 rfl (lv_at hl 3 rfl) ?_
        refine va_slen hx hb hX hbl hbA hS dL_law_20 ?_
        refine tp_i (w := 6) (by decide) ?_
        refine lv_bipush (v := 6) hx hb dL_law_21 (by decide) ?_
        refine lv_isub hx hb dL_law_23 ?_
        refine tp_i (w := 0) (by decide) ?_
        refine lv_icmp_gt (tgt := 1246) hx hb dL_law_24 (by decide) (fun _ => ?_) (fun c9 => absurd (by decide) c9)
        refine lv_iconst (v := 1) hx hb dL_law_1246 (by decide) ?_
        refine va_forget hS.2.2 ?_
        refine W.widen (k := 600000) (n := 7302250) (Nat.le_of_ble_eq_true rfl) (Nat.le_of_ble_eq_true rfl) ?_
        exact lw_ret hx hb hr hlocks dL_law_1247
      · skip
        have c_2x : x_1 = 32 := i_is (by decide) c_2j
        subst c_2x
        refine lv_tableIn (tgt := 1128) hx hb dL_law_33 (by decide) (by decide) rfl (by decide) ?_
        refine lv_aload_n hx hb dL_law_1128 rfl (lv_at hl 2 rfl) ?_
        refine lv_aload_n hx hb dL_law_1129 rfl (lv_at hl 3 rfl) ?_
        refine lv_iload_n hx hb dL_law_1130 rfl (lv_at hl 0 rfl) ?_
        refine lv_iconst (v := 1) hx hb dL_law_1131 (by decide) ?_
        refine lv_iadd hx hb dL_law_1132 ?_
        refine tp_i (w := 1) (by decide) ?_
        refine va_sld hx hb hX hbl hbA hS (i_in (by decide) (by decide)) dL_law_1133 ?_
        refine tp_i (w := xs 1) rfl ?_
        refine lv_aload_n hx hb dL_law_1134 rfl (lv_at hl 3 rfl) ?_
        refine lv_iload_n hx hb dL_law_1135 rfl (lv_at hl 0 rfl) ?_
        refine lv_iconst (v := 2) hx hb dL_law_1136 (by decide) ?_
        refine lv_iadd hx hb dL_law_1137 ?_
        refine tp_i (w := 2) (by decide) ?_
        refine va_sld hx hb hX hbl hbA hS (i_in (by decide) (by decide)) dL_law_1138 ?_
        refine tp_i (w := xs 2) rfl ?_
        refine lv_aload_n hx hb dL_law_1139 rfl (lv_at hl 3 rfl) ?_
        refine lv_iload_n hx hb dL_law_1140 rfl (lv_at hl 0 rfl) ?_
        refine lv_iconst (v := 3) hx hb dL_law_1141 (by decide) ?_
        refine lv_iadd hx hb dL_law_1142 ?_
        refine tp_i (w := 3) (by decide) ?_
        refine va_sld hx hb hX hbl hbA hS (i_in (by decide) (by decide)) dL_law_1143 ?_
        refine tp_i (w := xs 3) rfl ?_
        refine t_ci (va_runV (As := [.int (xs 1), .int (xs 2), .int (xs 3)]) (rest := []) ⟨hx, hb, hml, hown, hts⟩ (cz_X11_years l D cA L T r hG hLA.1 σ ρ hB.2.1 _ qx mqx tqx (xs 1) (xs 2) (xs 3) hZ) (cV hts mv_X11_years mw_5_165 rfl rfl ⟨Nat.le_of_ble_eq_true rfl, Nat.le_of_ble_eq_true rfl⟩) (pV hB.1 hK hN mqx tqx (show shp cA 11 _ _ _ = .inr (11, Fs11 _ _ _) from rfl) rfl) rfl rfl hl.1 rfl (lv_room (Nat.le_of_ble_eq_true rfl)) dL_law_1144 ⟨Nat.le_of_ble_eq_true rfl, Nat.le_of_ble_eq_true rfl⟩) hLA hA hB hS (by decide) (fun x_197 σ_195 ρ_196 H locs hB fσ_195 pσ_195 hS => ?_)
        subst pσ_195
        refine lv_aload_n hx hb dL_law_1147 rfl (lv_at hl 1 rfl) ?_
        refine lv_aload_n hx hb dL_law_1148 rfl (lv_at hl 3 rfl) ?_
        refine lv_iload_n hx hb dL_law_1149 rfl (lv_at hl 0 rfl) ?_
        refine lv_iconst (v := 1) hx hb dL_law_1150 (by decide) ?_
        refine lv_iadd hx hb dL_law_1151 ?_
        refine tp_i (w := 1) (by decide) ?_
        refine va_sld hx hb hX hbl hbA hS (i_in (by decide) (by decide)) dL_law_1152 ?_
        refine tp_i (w := xs 1) rfl ?_
        refine lv_aload_n hx hb dL_law_1153 rfl (lv_at hl 3 rfl) ?_
        refine lv_iload_n hx hb dL_law_1154 rfl (lv_at hl 0 rfl) ?_
        refine lv_iconst (v := 2) hx hb dL_law_1155 (by decide) ?_
        refine lv_iadd hx hb dL_law_1156 ?_
        refine tp_i (w := 2) (by decide) ?_
        refine va_sld hx hb hX hbl hbA hS (i_in (by decide) (by decide)) dL_law_1157 ?_
        refine tp_i (w := xs 2) rfl ?_
        refine lv_aload_n hx hb dL_law_1158 rfl (lv_at hl 3 rfl) ?_
        refine lv_iload_n hx hb dL_law_1159 rfl (lv_at hl 0 rfl) ?_
        refine lv_iconst (v := 3) hx hb dL_law_1160 (by decide) ?_
        refine lv_iadd hx hb dL_law_1161 ?_
        refine tp_i (w := 3) (by decide) ?_
        refine va_sld hx hb hX hbl hbA hS (i_in (by decide) (by decide)) dL_law_1162 ?_
        refine tp_i (w := xs 3) rfl ?_
        refine t_ci (va_runV (As := [.int (xs 1), .int (xs 2), .int (xs 3)]) (rest := [.int (-1)]) ⟨hx, hb, hml, hown, hts⟩ (cz_X12_years l D cA L T r hG hLA.1 σ_195 ρ_196 hB.2.1 _ qm mqm tqm (xs 1) (xs 2) (xs 3) (ZM.of hZ fσ_195 (by decide))) (cV hts mv_X12_years mw_8_114 rfl rfl ⟨Nat.le_of_ble_eq_true rfl, Nat.le_of_ble_eq_true rfl⟩) (pV hB.1 hK hN mqm tqm (show shp cA 12 _ _ _ = .inr (12, Fs12 _ _ _) from rfl) rfl) rfl rfl hl.1 rfl (lv_room (Nat.le_of_ble_eq_true rfl)) dL_law_1163 ⟨Nat.le_of_ble_eq_true rfl, Nat.le_of_ble_eq_true rfl⟩) hLA hA hB hS (by decide) (fun x_200 σ_198 ρ_199 H locs hB fσ_198 pσ_198 hS => ?_)
        subst pσ_198
        refine lv_icmp_eq (tgt := 1240) hx hb dL_law_1166 (by decide) (fun _ => ?_) (fun c9 => absurd (by decide) c9)
        refine lv_iinc (v := 6) (lv' := [(3, .int 6), (2, .ref qm), (1, .ref qx), (0, .ref b)]) hx hb dL_law_1240 hl (k := 0) rfl (by decide) (by decide) rfl (fun ls hl => ?_)
        refine lv_goto (tgt := 18) hx hb dL_law_1243 (by decide) ?_
        refine lv_iload_n hx hb dL_law_18 rfl (lv_at hl 0 rfl) ?_
        refine lv_aload_n hx hb dL_law_19 rfl (lv_at hl 3 rfl) ?_
        refine va_slen hx hb hX hbl hbA hS dL_law_20 ?_
        refine tp_i (w := 6) (by decide) ?_
        refine lv_bipush (v := 6) hx hb dL_law_21 (by decide) ?_
        refine lv_isub hx hb dL_law_23 ?_
        refine tp_i (w := 0) (by decide) ?_
        refine lv_icmp_gt (tgt := 1246) hx hb dL_law_24 (by decide) (fun _ => ?_) (fun c9 => absurd (by decide) c9)
        refine lv_iconst (v := 1) hx hb dL_law_1246 (by decide) ?_
        refine va_forget hS.2.2 ?_
        refine W.widen (k := 600000) (n := 7302250) (Nat.le_of_ble_eq_true rfl) (Nat.le_of_ble_eq_true rfl) ?_
        exact lw_ret hx hb hr hlocks dL_law_1247
      · skip
        have c_2x : x_1 = 33 := i_is (by decide) c_2j
        subst c_2x
        refine lv_tableIn (tgt := 1171) hx hb dL_law_33 (by decide) (by decide) rfl (by decide) ?_
        refine lv_aload_n hx hb dL_law_1171 rfl (lv_at hl 2 rfl) ?_
        refine lv_aload_n hx hb dL_law_1172 rfl (lv_at hl 3 rfl) ?_
        refine lv_iload_n hx hb dL_law_1173 rfl (lv_at hl 0 rfl) ?_
        refine lv_iconst (v := 1) hx hb dL_law_1174 (by decide) ?_
        refine lv_iadd hx hb dL_law_1175 ?_
        refine tp_i (w := 1) (by decide) ?_
        refine va_sld hx hb hX hbl hbA hS (i_in (by decide) (by decide)) dL_law_1176 ?_
        refine tp_i (w := xs 1) rfl ?_
        refine t_ci (va_runV (As := [.int (xs 1)]) (rest := []) ⟨hx, hb, hml, hown, hts⟩ (cz_X11_count l D cA L T r hG hLA.1 σ ρ hB.2.1 _ qx mqx tqx (xs 1) hZ) (cV hts mv_X11_count mw_5_185 rfl rfl ⟨Nat.le_of_ble_eq_true rfl, Nat.le_of_ble_eq_true rfl⟩) (pV hB.1 hK hN mqx tqx (show shp cA 11 _ _ _ = .inr (11, Fs11 _ _ _) from rfl) rfl) rfl rfl hl.1 rfl (lv_room (Nat.le_of_ble_eq_true rfl)) dL_law_1177 ⟨Nat.le_of_ble_eq_true rfl, Nat.le_of_ble_eq_true rfl⟩) hLA hA hB hS (by decide) (fun x_203 σ_201 ρ_202 H locs hB fσ_201 pσ_201 hS => ?_)
        refine lv_aload_n hx hb dL_law_1180 rfl (lv_at hl 1 rfl) ?_
        refine lv_aload_n hx hb dL_law_1181 rfl (lv_at hl 3 rfl) ?_
        refine lv_iload_n hx hb dL_law_1182 rfl (lv_at hl 0 rfl) ?_
        refine lv_iconst (v := 1) hx hb dL_law_1183 (by decide) ?_
        refine lv_iadd hx hb dL_law_1184 ?_
        refine tp_i (w := 1) (by decide) ?_
        refine va_sld hx hb hX hbl hbA hS (i_in (by decide) (by decide)) dL_law_1185 ?_
        refine tp_i (w := xs 1) rfl ?_
        refine t_ci (va_runV (As := [.int (xs 1)]) (rest := [.int x_203]) ⟨hx, hb, hml, hown, hts⟩ (cz_X12_count l D cA L T r hG hLA.1 σ_201 ρ_202 hB.2.1 _ qm mqm tqm (xs 1) (ZM.of hZ fσ_201 (by decide))) (cV hts mv_X12_count mw_8_130 rfl rfl ⟨Nat.le_of_ble_eq_true rfl, Nat.le_of_ble_eq_true rfl⟩) (pV hB.1 hK hN mqm tqm (show shp cA 12 _ _ _ = .inr (12, Fs12 _ _ _) from rfl) rfl) rfl rfl hl.1 rfl (lv_room (Nat.le_of_ble_eq_true rfl)) dL_law_1186 ⟨Nat.le_of_ble_eq_true rfl, Nat.le_of_ble_eq_true rfl⟩) hLA hA hB hS (by decide) (fun x_206 σ_204 ρ_205 H locs hB fσ_204 pσ_204 hS => ?_)
        refine lv_icmp_eq (tgt := 1240) hx hb dL_law_1189 (by decide) (fun _ => ?_) (fun c9 => absurd (pσ_201.trans pσ_204.symm) c9)
        refine lv_iinc (v := 6) (lv' := [(3, .int 6), (2, .ref qm), (1, .ref qx), (0, .ref b)]) hx hb dL_law_1240 hl (k := 0) rfl (by decide) (by decide) rfl (fun ls hl => ?_)
        refine lv_goto (tgt := 18) hx hb dL_law_1243 (by decide) ?_
        refine lv_iload_n hx hb dL_law_18 rfl (lv_at hl 0 rfl) ?_
        refine lv_aload_n hx hb dL_law_19 rfl (lv_at hl 3 rfl) ?_
        refine va_slen hx hb hX hbl hbA hS dL_law_20 ?_
        refine tp_i (w := 6) (by decide) ?_
        refine lv_bipush (v := 6) hx hb dL_law_21 (by decide) ?_
        refine lv_isub hx hb dL_law_23 ?_
        refine tp_i (w := 0) (by decide) ?_
        refine lv_icmp_gt (tgt := 1246) hx hb dL_law_24 (by decide) (fun _ => ?_) (fun c9 => absurd (by decide) c9)
        refine lv_iconst (v := 1) hx hb dL_law_1246 (by decide) ?_
        refine va_forget hS.2.2 ?_
        refine W.widen (k := 600000) (n := 7302250) (Nat.le_of_ble_eq_true rfl) (Nat.le_of_ble_eq_true rfl) ?_
        exact lw_ret hx hb hr hlocks dL_law_1247
      · skip
        have c_2x : x_1 = 34 := i_is (by decide) c_2j
        subst c_2x
        refine lv_tableIn (tgt := 1194) hx hb dL_law_33 (by decide) (by decide) rfl (by decide) ?_
        refine lv_aload_n hx hb dL_law_1194 rfl (lv_at hl 2 rfl) ?_
        refine lv_aload_n hx hb dL_law_1195 rfl (lv_at hl 3 rfl) ?_
        refine lv_iload_n hx hb dL_law_1196 rfl (lv_at hl 0 rfl) ?_
        refine lv_iconst (v := 1) hx hb dL_law_1197 (by decide) ?_
        refine lv_iadd hx hb dL_law_1198 ?_
        refine tp_i (w := 1) (by decide) ?_
        refine va_sld hx hb hX hbl hbA hS (i_in (by decide) (by decide)) dL_law_1199 ?_
        refine tp_i (w := xs 1) rfl ?_
        refine t_ci (va_runV (As := [.int (xs 1)]) (rest := []) ⟨hx, hb, hml, hown, hts⟩ (cz_X11_image l D cA L T r hG hLA.1 σ ρ hB.2.1 _ qx mqx tqx (xs 1) hZ) (cV hts mv_X11_image mw_5_197 rfl rfl ⟨Nat.le_of_ble_eq_true rfl, Nat.le_of_ble_eq_true rfl⟩) (pV hB.1 hK hN mqx tqx (show shp cA 11 _ _ _ = .inr (11, Fs11 _ _ _) from rfl) rfl) rfl rfl hl.1 rfl (lv_room (Nat.le_of_ble_eq_true rfl)) dL_law_1200 ⟨Nat.le_of_ble_eq_true rfl, Nat.le_of_ble_eq_true rfl⟩) hLA hA hB hS (by decide) (fun x_209 σ_207 ρ_208 H locs hB fσ_207 pσ_207 hS => ?_)
        refine lv_aload_n hx hb dL_law_1203 rfl (lv_at hl 1 rfl) ?_
        refine lv_aload_n hx hb dL_law_1204 rfl (lv_at hl 3 rfl) ?_
        refine lv_iload_n hx hb dL_law_1205 rfl (lv_at hl 0 rfl) ?_
        refine lv_iconst (v := 1) hx hb dL_law_1206 (by decide) ?_
        refine lv_iadd hx hb dL_law_1207 ?_
        refine tp_i (w := 1) (by decide) ?_
        refine va_sld hx hb hX hbl hbA hS (i_in (by decide) (by decide)) dL_law_1208 ?_
        refine tp_i (w := xs 1) rfl ?_
        refine t_ci (va_runV (As := [.int (xs 1)]) (rest := [.int x_209]) ⟨hx, hb, hml, hown, hts⟩ (cz_X12_image l D cA L T r hG hLA.1 σ_207 ρ_208 hB.2.1 _ qm mqm tqm (xs 1) (ZM.of hZ fσ_207 (by decide))) (cV hts mv_X12_image mw_8_134 rfl rfl ⟨Nat.le_of_ble_eq_true rfl, Nat.le_of_ble_eq_true rfl⟩) (pV hB.1 hK hN mqm tqm (show shp cA 12 _ _ _ = .inr (12, Fs12 _ _ _) from rfl) rfl) rfl rfl hl.1 rfl (lv_room (Nat.le_of_ble_eq_true rfl)) dL_law_1209 ⟨Nat.le_of_ble_eq_true rfl, Nat.le_of_ble_eq_true rfl⟩) hLA hA hB hS (by decide) (fun x_212 σ_210 ρ_211 H locs hB fσ_210 pσ_210 hS => ?_)
        refine lv_icmp_eq (tgt := 1240) hx hb dL_law_1212 (by decide) (fun _ => ?_) (fun c9 => absurd (pσ_207.trans pσ_210.symm) c9)
        refine lv_iinc (v := 6) (lv' := [(3, .int 6), (2, .ref qm), (1, .ref qx), (0, .ref b)]) hx hb dL_law_1240 hl (k := 0) rfl (by decide) (by decide) rfl (fun ls hl => ?_)
        refine lv_goto (tgt := 18) hx hb dL_law_1243 (by decide) ?_
        refine lv_iload_n hx hb dL_law_18 rfl (lv_at hl 0 rfl) ?_
        refine lv_aload_n hx hb dL_law_19 rfl (lv_at hl 3 rfl) ?_
        refine va_slen hx hb hX hbl hbA hS dL_law_20 ?_
        refine tp_i (w := 6) (by decide) ?_
        refine lv_bipush (v := 6) hx hb dL_law_21 (by decide) ?_
        refine lv_isub hx hb dL_law_23 ?_
        refine tp_i (w := 0) (by decide) ?_
        refine lv_icmp_gt (tgt := 1246) hx hb dL_law_24 (by decide) (fun _ => ?_) (fun c9 => absurd (by decide) c9)
        refine lv_iconst (v := 1) hx hb dL_law_1246 (by decide) ?_
        refine va_forget hS.2.2 ?_
        refine W.widen (k := 600000) (n := 7302250) (Nat.le_of_ble_eq_true rfl) (Nat.le_of_ble_eq_true rfl) ?_
        exact lw_ret hx hb hr hlocks dL_law_1247
      · skip
        have c_2x : x_1 = 35 := i_is (by decide) c_2j
        subst c_2x
        refine lv_tableIn (tgt := 1217) hx hb dL_law_33 (by decide) (by decide) rfl (by decide) ?_
        refine lv_aload_n hx hb dL_law_1217 rfl (lv_at hl 2 rfl) ?_
        refine lv_aload_n hx hb dL_law_1218 rfl (lv_at hl 3 rfl) ?_
        refine lv_iload_n hx hb dL_law_1219 rfl (lv_at hl 0 rfl) ?_
        refine lv_iconst (v := 1) hx hb dL_law_1220 (by decide) ?_
        refine lv_iadd hx hb dL_law_1221 ?_
        refine tp_i (w := 1) (by decide) ?_
        refine va_sld hx hb hX hbl hbA hS (i_in (by decide) (by decide)) dL_law_1222 ?_
        refine tp_i (w := xs 1) rfl ?_
        refine t_ci (va_runV (As := [.int (xs 1)]) (rest := []) ⟨hx, hb, hml, hown, hts⟩ (cz_X11_back l D cA L T r hG hLA.1 σ ρ hB.2.1 _ qx mqx tqx (xs 1) hZ) (cV hts mv_X11_back mw_5_206 rfl rfl ⟨Nat.le_of_ble_eq_true rfl, Nat.le_of_ble_eq_true rfl⟩) (pV hB.1 hK hN mqx tqx (show shp cA 11 _ _ _ = .inr (11, Fs11 _ _ _) from rfl) rfl) rfl rfl hl.1 rfl (lv_room (Nat.le_of_ble_eq_true rfl)) dL_law_1223 ⟨Nat.le_of_ble_eq_true rfl, Nat.le_of_ble_eq_true rfl⟩) hLA hA hB hS (by decide) (fun x_215 σ_213 ρ_214 H locs hB fσ_213 pσ_213 hS => ?_)
        subst pσ_213
        refine lv_aload_n hx hb dL_law_1226 rfl (lv_at hl 1 rfl) ?_
        refine lv_aload_n hx hb dL_law_1227 rfl (lv_at hl 3 rfl) ?_
        refine lv_iload_n hx hb dL_law_1228 rfl (lv_at hl 0 rfl) ?_
        refine lv_iconst (v := 1) hx hb dL_law_1229 (by decide) ?_
        refine lv_iadd hx hb dL_law_1230 ?_
        refine tp_i (w := 1) (by decide) ?_
        refine va_sld hx hb hX hbl hbA hS (i_in (by decide) (by decide)) dL_law_1231 ?_
        refine tp_i (w := xs 1) rfl ?_
        refine t_ci (va_runV (As := [.int (xs 1)]) (rest := [.int (-1)]) ⟨hx, hb, hml, hown, hts⟩ (cz_X12_back l D cA L T r hG hLA.1 σ_213 ρ_214 hB.2.1 _ qm mqm tqm (xs 1) (ZM.of hZ fσ_213 (by decide))) (cV hts mv_X12_back mw_8_139 rfl rfl ⟨Nat.le_of_ble_eq_true rfl, Nat.le_of_ble_eq_true rfl⟩) (pV hB.1 hK hN mqm tqm (show shp cA 12 _ _ _ = .inr (12, Fs12 _ _ _) from rfl) rfl) rfl rfl hl.1 rfl (lv_room (Nat.le_of_ble_eq_true rfl)) dL_law_1232 ⟨Nat.le_of_ble_eq_true rfl, Nat.le_of_ble_eq_true rfl⟩) hLA hA hB hS (by decide) (fun x_218 σ_216 ρ_217 H locs hB fσ_216 pσ_216 hS => ?_)
        subst pσ_216
        refine lv_icmp_eq (tgt := 1240) hx hb dL_law_1235 (by decide) (fun _ => ?_) (fun c9 => absurd (by decide) c9)
        refine lv_iinc (v := 6) (lv' := [(3, .int 6), (2, .ref qm), (1, .ref qx), (0, .ref b)]) hx hb dL_law_1240 hl (k := 0) rfl (by decide) (by decide) rfl (fun ls hl => ?_)
        refine lv_goto (tgt := 18) hx hb dL_law_1243 (by decide) ?_
        refine lv_iload_n hx hb dL_law_18 rfl (lv_at hl 0 rfl) ?_
        refine lv_aload_n hx hb dL_law_19 rfl (lv_at hl 3 rfl) ?_
        refine va_slen hx hb hX hbl hbA hS dL_law_20 ?_
        refine tp_i (w := 6) (by decide) ?_
        refine lv_bipush (v := 6) hx hb dL_law_21 (by decide) ?_
        refine lv_isub hx hb dL_law_23 ?_
        refine tp_i (w := 0) (by decide) ?_
        refine lv_icmp_gt (tgt := 1246) hx hb dL_law_24 (by decide) (fun _ => ?_) (fun c9 => absurd (by decide) c9)
        refine lv_iconst (v := 1) hx hb dL_law_1246 (by decide) ?_
        refine va_forget hS.2.2 ?_
        refine W.widen (k := 600000) (n := 7302250) (Nat.le_of_ble_eq_true rfl) (Nat.le_of_ble_eq_true rfl) ?_
        exact lw_ret hx hb hr hlocks dL_law_1247
set_option maxHeartbeats 4000000 in
set_option maxRecDepth 100000 in
theorem whole_start {p : Program} {e : Env} {s : State} {m : MethodId} {below : List Frame} {meth : Method} {c : Code} (l : Launch) {b Ls : Nat} {xs : Nat → Int32} (hLs : Ls ≤ 6) (C0 : lw_At p s m meth c b Ls xs) : W p l e room_1 s m #[Value.ref b] below meth c s.heap [] 0 0 (lw_Z below #[Value.ref b] s) (entryFrame m ([Value.ref b] : List Value).toArray 4) := by
  obtain ⟨hx, hb, hr, hml, hown, hts0, hX, hbl, hlocks, hgv⟩ := id C0
  have hts : ∀ w ∈ wsA, w.before #[Value.ref b] s = true := fun w h => hts0 w (wsA_in h)
  have hown : s.vm.findClass RL = some m.cls := hown
  have hA : ∀ q : Nat, s.heap.size ≤ q → (fun q : Nat => s.heap.size ≤ q) q := fun _ h => h
  obtain ⟨c0, i0, kn0⟩ := u_known (C := RX0) (T := TX0) (N := 6) (n := 6) hts lay0 (hts _ mw_2_90)
  obtain ⟨c1, i1, kn1⟩ := u_known (C := RX1) (T := TX1) (N := 9) (n := 9) hts lay1 (hts _ mw_2_120)
  obtain ⟨c2, i2, kn2⟩ := u_known (C := RX2) (T := TX2) (N := 4) (n := 4) hts lay2 (hts _ mw_2_157)
  obtain ⟨c3, i3, kn3⟩ := u_known (C := RX3) (T := TX3) (N := 11) (n := 11) hts lay3 (hts _ mw_1_69)
  obtain ⟨c4, i4, kn4⟩ := u_known (C := RX4) (T := TX4) (N := 2) (n := 2) hts lay4 (hts _ mw_1_63)
  obtain ⟨c5, i5, kn5⟩ := u_known (C := RX5) (T := TX5) (N := 3) (n := 3) hts lay5 (hts _ mw_2_40)
  obtain ⟨c6, i6, kn6⟩ := u_known (C := RX6) (T := TX6) (N := 6) (n := 6) hts lay6 (hts _ mw_2_60)
  obtain ⟨c7, i7, kn7⟩ := u_known (C := RX7) (T := TX7) (N := 8) (n := 8) hts lay7 (hts _ mw_2_177)
  obtain ⟨c8, i8, kn8⟩ := u_known (C := RX8) (T := TX8) (N := 8) (n := 8) hts lay8 (hts _ mw_1_75)
  obtain ⟨c9, i9, kn9⟩ := u_known (C := RX9) (T := TX9) (N := 7) (n := 7) hts lay9 (hts _ mw_1_31)
  obtain ⟨c10, i10, kn10⟩ := u_known (C := RX10) (T := TX10) (N := 9) (n := 9) hts lay10 (hts _ mw_1_224)
  obtain ⟨c11, i11, kn11⟩ := u_known (C := RX11) (T := TX11) (N := 12) (n := 12) hts lay11 (hts _ mw_1_23)
  obtain ⟨c12, i12, kn12⟩ := u_known (C := RX12) (T := TX12) (N := 44) (n := 44) hts lay12 (hts _ mw_5_211)
  obtain ⟨D, hKc⟩ : ∃ D : va_G, ∀ (k : Nat) (q : vw_C), vwCl[k]? = some q → u_Kn s q.1 q.2.1 q.2.2 (D.1 k) (D.2 k) := by
    refine ⟨(fun k => if k = 0 then c0 else if k = 1 then c1 else if k = 2 then c2 else if k = 3 then c3 else if k = 4 then c4 else if k = 5 then c5 else if k = 6 then c6 else if k = 7 then c7 else if k = 8 then c8 else if k = 9 then c9 else if k = 10 then c10 else if k = 11 then c11 else c12, fun k => if k = 0 then i0 else if k = 1 then i1 else if k = 2 then i2 else if k = 3 then i3 else if k = 4 then i4 else if k = 5 then i5 else if k = 6 then i6 else if k = 7 then i7 else if k = 8 then i8 else if k = 9 then i9 else if k = 10 then i10 else if k = 11 then i11 else i12), ?_⟩
    intro k q hq
    match k, hq with
    | 0, hq => cases hq; exact kn0
    | 1, hq => cases hq; exact kn1
    | 2, hq => cases hq; exact kn2
    | 3, hq => cases hq; exact kn3
    | 4, hq => cases hq; exact kn4
    | 5, hq => cases hq; exact kn5
    | 6, hq => cases hq; exact kn6
    | 7, hq => cases hq; exact kn7
    | 8, hq => cases hq; exact kn8
    | 9, hq => cases hq; exact kn9
    | 10, hq => cases hq; exact kn10
    | 11, hq => cases hq; exact kn11
    | 12, hq => cases hq; exact kn12
    | k + 13, hq => simp [vwCl] at hq
  obtain ⟨a0, ha0⟩ := arrK (ty := .byte) (fun C h => by cases h) (hts _ mw_4_14)
  obtain ⟨a1, ha1⟩ := arrK (ty := .int) (fun C h => by cases h) (hts _ mw_1_61)
  obtain ⟨a2, ha2⟩ := arrK (ty := .long) (fun C h => by cases h) (hts _ mw_2_88)
  obtain ⟨a3, ha3⟩ := arrK (ty := .boolean) (fun C h => by cases h) (hts _ mw_6_109)
  have ho4 : va_AO RX8 s := va_AO.of (hts0 (.arrayOver (.object RX8)) (List.mem_append_right _ (List.mem_append_right _ (List.mem_append_left _ (List.mem_of_getElem? (l := tables_1_2) (i := 46) rfl)))))
  obtain ⟨a4, ha4⟩ := arrO (args := #[]) ho4
  have ho5 : va_AO RX7 s := va_AO.of (hts0 (.arrayOver (.object RX7)) (List.mem_append_right _ (List.mem_append_left _ (List.mem_of_getElem? (l := tables_1_1) (i := 222) rfl))))
  obtain ⟨a5, ha5⟩ := arrO (args := #[]) ho5
  have ho6 : va_AO RX10 s := va_AO.of (hts0 (.arrayOver (.object RX10)) (List.mem_append_right _ (List.mem_append_right _ (List.mem_append_left _ (List.mem_of_getElem? (l := tables_1_2) (i := 38) rfl)))))
  obtain ⟨a6, ha6⟩ := arrO (args := #[]) ho6
  obtain ⟨cA, hcA⟩ : ∃ cA : Nat → ClassId, cA 0 = a0 ∧ cA 1 = a1 ∧ cA 2 = a2 ∧ cA 3 = a3 ∧ cA 4 = a4 ∧ cA 5 = a5 ∧ cA 6 = a6 := ⟨fun k => if k = 0 then a0 else if k = 1 then a1 else if k = 2 then a2 else if k = 3 then a3 else if k = 4 then a4 else if k = 5 then a5 else a6, rfl, rfl, rfl, rfl, rfl, rfl, rfl⟩
  obtain ⟨rfl, rfl, rfl, rfl, rfl, rfl, rfl⟩ := hcA
  have hK : va_K D vwCl (tyA cA) s := by
    refine ⟨hKc, fun k q hq => ?_⟩
    match k, hq with
    | 0, hq => cases hq; exact ha0
    | 1, hq => cases hq; exact ha1
    | 2, hq => cases hq; exact ha2
    | 3, hq => cases hq; exact ha3
    | 4, hq => cases hq; exact ha4
    | 5, hq => cases hq; exact ha5
    | 6, hq => cases hq; exact ha6
    | k + 7, hq => simp [tyA] at hq
  have hN : NW s := ⟨List.forall_mem_cons.mpr ⟨va_Nw.of rfl (hts0 (.methodLinkNest RX11 9 yX9_init RX11) (List.mem_append_right _ (List.mem_append_left _ (List.mem_of_getElem? (l := tables_1_1) (i := 32) rfl)))), List.forall_mem_cons.mpr ⟨va_Nw.of rfl (hts0 (.methodLinkNest RX11 18 yX4_init RX11) (List.mem_append_right _ (List.mem_append_left _ (List.mem_of_getElem? (l := tables_1_1) (i := 64) rfl)))), List.forall_mem_cons.mpr ⟨va_Nw.of rfl (hts0 (.methodLinkNest RX4 11 yX3_init RX11) (List.mem_append_right _ (List.mem_append_left _ (List.mem_of_getElem? (l := tables_1_1) (i := 70) rfl)))), List.forall_mem_cons.mpr ⟨va_Nw.of rfl (hts0 (.methodLinkNest RX3 29 yX8_init RX11) (List.mem_append_right _ (List.mem_append_left _ (List.mem_of_getElem? (l := tables_1_1) (i := 76) rfl)))), List.forall_mem_cons.mpr ⟨va_Nw.of rfl (hts0 (.methodLinkNest RX11 31 yX10_init RX11) (List.mem_append_right _ (List.mem_append_left _ (List.mem_of_getElem? (l := tables_1_1) (i := 225) rfl)))), List.forall_mem_cons.mpr ⟨va_Nw.of rfl (hts0 (.methodLinkNest RX10 11 yX3_init RX11) (List.mem_append_right _ (List.mem_append_left _ (List.mem_of_getElem? (l := tables_1_1) (i := 230) rfl)))), List.forall_mem_cons.mpr ⟨va_Nw.of rfl (hts0 (.methodLinkNest RX10 20 yX8_init RX11) (List.mem_append_right _ (List.mem_append_left _ (List.mem_of_getElem? (l := tables_1_1) (i := 232) rfl)))), List.forall_mem_cons.mpr ⟨va_Nw.of rfl (hts0 (.methodLinkNest RX5 15 yX8_init RX11) (List.mem_append_right _ (List.mem_append_right _ (List.mem_append_left _ (List.mem_of_getElem? (l := tables_1_2) (i := 47) rfl))))), List.forall_mem_cons.mpr ⟨va_Nw.of rfl (hts0 (.methodLinkNest RX11 49 yX6_init RX11) (List.mem_append_right _ (List.mem_append_right _ (List.mem_append_left _ (List.mem_of_getElem? (l := tables_1_2) (i := 61) rfl))))), List.forall_mem_cons.mpr ⟨va_Nw.of rfl (hts0 (.methodLinkNest RX6 22 yX8_init RX11) (List.mem_append_right _ (List.mem_append_right _ (List.mem_append_left _ (List.mem_of_getElem? (l := tables_1_2) (i := 66) rfl))))), List.forall_mem_cons.mpr ⟨va_Nw.of rfl (hts0 (.methodLinkNest RX11 56 yX0_init RX11) (List.mem_append_right _ (List.mem_append_right _ (List.mem_append_left _ (List.mem_of_getElem? (l := tables_1_2) (i := 91) rfl))))), List.forall_mem_cons.mpr ⟨va_Nw.of rfl (hts0 (.methodLinkNest RX11 63 yX1_init RX11) (List.mem_append_right _ (List.mem_append_right _ (List.mem_append_left _ (List.mem_of_getElem? (l := tables_1_2) (i := 121) rfl))))), List.forall_mem_cons.mpr ⟨va_Nw.of rfl (hts0 (.methodLinkNest RX11 70 yX2_init RX11) (List.mem_append_right _ (List.mem_append_right _ (List.mem_append_left _ (List.mem_of_getElem? (l := tables_1_2) (i := 158) rfl))))), List.forall_mem_cons.mpr ⟨va_Nw.of rfl (hts0 (.methodLinkNest RX2 20 yX8_init RX11) (List.mem_append_right _ (List.mem_append_right _ (List.mem_append_left _ (List.mem_of_getElem? (l := tables_1_2) (i := 163) rfl))))), List.forall_mem_cons.mpr ⟨va_Nw.of rfl (hts0 (.methodLinkNest RX11 75 yX7_init RX11) (List.mem_append_right _ (List.mem_append_right _ (List.mem_append_left _ (List.mem_of_getElem? (l := tables_1_2) (i := 178) rfl))))), fun _ h => absurd h List.not_mem_nil⟩⟩⟩⟩⟩⟩⟩⟩⟩⟩⟩⟩⟩⟩⟩, ho4, ho5, ho6⟩
  have hS : va_S (fun q : Nat => s.heap.size ≤ q) s.heap s.heap [] := va_S.rf
  have hV : LSS D cA (fun q : Nat => s.heap.size ≤ q) [] [] (fun _ => 999) (fun _ _ => none) (fun _ _ => 0) (fun _ _ => 0) s.heap := ⟨fun k q h => by simp [va_pl] at h, ⟨List.nodup_nil, fun a h => by cases h⟩, fun a h => by cases h⟩
  have hl := lv_entry ([.ref b]) (n := 4) (Nat.le_of_ble_eq_true rfl)
  rw [lg_entry_eq]
  generalize (lg_sl ([.ref b]) ++ List.replicate (4 - (lg_sl ([.ref b])).length) Slot.unset).toArray = ls at hl ⊢
  have hl : lv_has ls 4 [(0, .ref b)] := hl
  refine l_no (t := 11) (ci := 11) (TT := TX11) hx hb hts lay11 tyX11_ok hown mw_1_22 mw_1_23 mw_1_1 hK hV hS hA rfl rfl (fun j hj => by rcases (show j = 0 ∨ j = 1 ∨ j = 2 ∨ j = 3 ∨ j = 4 ∨ j = 5 ∨ j = 6 ∨ j = 7 ∨ j = 8 ∨ j = 9 ∨ j = 10 ∨ j = 11 by omega) with rfl | rfl | rfl | rfl | rfl | rfl | rfl | rfl | rfl | rfl | rfl | rfl <;> rfl) (Nat.le_of_ble_eq_true rfl) (Nat.le_of_ble_eq_true rfl) dL_law_0 (fun qx L1 T1 r1 σ1 ρ1 H hV mqx tqx zqx oqx hS => ?_)
  refine W.widen (k := 1) (n := 12) (Nat.le_of_ble_eq_true rfl) (Nat.le_of_ble_eq_true rfl) ?_
  refine lv_dup hx hb dL_law_3 rfl ?_
  refine l_ci (va_runI (As := []) (rest := [.ref qx]) ⟨hx, hb, hml, hown, hts⟩ (kk_X11_init l D cA _ _ _ _ _ hV.2.1.1 _ qx mqx tqx zqx) (cI hts mi_X11_init mw_1_24 rfl rfl ⟨Nat.le_of_ble_eq_true rfl, Nat.le_of_ble_eq_true rfl⟩) (pS hV.1 hK hN) rfl rfl hl.1 rfl (lv_room (Nat.le_of_ble_eq_true rfl)) dL_law_4 ⟨Nat.le_of_ble_eq_true rfl, Nat.le_of_ble_eq_true rfl⟩) hV mqx hA hS tqx (fun L1 T1 r1 σ1 ρ1 H locs hV mqx tqx o2qx hS => ?_)
  refine W.widen (k := 352) (n := 9185) (Nat.le_of_ble_eq_true rfl) (Nat.le_of_ble_eq_true rfl) ?_
  refine lv_astore_n (lv' := [(1, .ref qx), (0, .ref b)]) hx hb dL_law_7 rfl hl (by decide) rfl (fun ls hl => ?_)
  refine l_no (t := 12) (ci := 12) (TT := TX12) hx hb hts lay12 tyX12_ok hown mw_5_210 mw_5_211 mw_1_13 hK hV hS hA rfl rfl (fun j hj => by rcases (show j = 0 ∨ j = 1 ∨ j = 2 ∨ j = 3 ∨ j = 4 ∨ j = 5 ∨ j = 6 ∨ j = 7 ∨ j = 8 ∨ j = 9 ∨ j = 10 ∨ j = 11 ∨ j = 12 ∨ j = 13 ∨ j = 14 ∨ j = 15 ∨ j = 16 ∨ j = 17 ∨ j = 18 ∨ j = 19 ∨ j = 20 ∨ j = 21 ∨ j = 22 ∨ j = 23 ∨ j = 24 ∨ j = 25 ∨ j = 26 ∨ j = 27 ∨ j = 28 ∨ j = 29 ∨ j = 30 ∨ j = 31 ∨ j = 32 ∨ j = 33 ∨ j = 34 ∨ j = 35 ∨ j = 36 ∨ j = 37 ∨ j = 38 ∨ j = 39 ∨ j = 40 ∨ j = 41 ∨ j = 42 ∨ j = 43 by omega) with rfl | rfl | rfl | rfl | rfl | rfl | rfl | rfl | rfl | rfl | rfl | rfl | rfl | rfl | rfl | rfl | rfl | rfl | rfl | rfl | rfl | rfl | rfl | rfl | rfl | rfl | rfl | rfl | rfl | rfl | rfl | rfl | rfl | rfl | rfl | rfl | rfl | rfl | rfl | rfl | rfl | rfl | rfl | rfl <;> rfl) (Nat.le_of_ble_eq_true rfl) (Nat.le_of_ble_eq_true rfl) dL_law_8 (fun qm L1 T1 r1 σ1 ρ1 H hV mqm tqm zqm oqm hS => ?_)
  refine W.widen (k := 353) (n := 9229) (Nat.le_of_ble_eq_true rfl) (Nat.le_of_ble_eq_true rfl) ?_
  refine lv_dup hx hb dL_law_11 rfl ?_
  obtain ⟨mqx, tq1, _⟩ := oqm qx mqx
  have tqx := tq1.trans tqx
  refine l_ci (va_runI (As := []) (rest := [.ref qm]) ⟨hx, hb, hml, hown, hts⟩ (kk_X12_init l D cA _ _ _ _ _ hV.2.1.1 _ qm mqm tqm zqm) (cI hts mi_X12_init mw_5_212 rfl rfl ⟨Nat.le_of_ble_eq_true rfl, Nat.le_of_ble_eq_true rfl⟩) (pS hV.1 hK hN) rfl rfl hl.1 rfl (lv_room (Nat.le_of_ble_eq_true rfl)) dL_law_12 ⟨Nat.le_of_ble_eq_true rfl, Nat.le_of_ble_eq_true rfl⟩) hV mqm hA hS tqm (fun L1 T1 r1 σ1 ρ1 H locs hV mqm tqm o2qm hS => ?_)
  refine W.widen (k := 378) (n := 16064) (Nat.le_of_ble_eq_true rfl) (Nat.le_of_ble_eq_true rfl) ?_
  obtain ⟨mqx, tq2, _⟩ := o2qm qx mqx
  have tqx := tq2.trans tqx
  refine lv_astore_n (lv' := [(2, .ref qm), (1, .ref qx), (0, .ref b)]) hx hb dL_law_15 rfl hl (by decide) rfl (fun ls hl => ?_)
  refine lv_iconst (v := 0) hx hb dL_law_16 (by decide) ?_
  refine lv_istore_n (lv' := [(3, .int 0), (2, .ref qm), (1, .ref qx), (0, .ref b)]) hx hb dL_law_17 rfl hl (by decide) rfl (fun ls hl => ?_)
  exact law_body l hLs hx hb hr hml hown hts hX hbl hlocks D cA hK hN L1 T1 r1 σ1 ρ1 H hV qx mqx tqx qm mqm tqm locs hS ls hl

set_option maxHeartbeats 4000000 in
theorem lw_walk (l : Launch) (b : Addr) (xs : List Int32) : MetFree l x (headSpec (Jvm.Cond.code x code maxLocals ret :: tables_1) room_1) (lw_P b xs) (fun _ _ _ _ _ => True) lw_Q := by
  refine MetFree.of_bodyS (code := code) (maxLocals := maxLocals) (ret := ret) (by decide) ?_ ?_
  · intro args s m h hn
    obtain ⟨meth, c, h1, h2, h3, h4, h5, h6, -, -⟩ := Cond.code_spec hn (atoms_spec (ws := Jvm.Cond.code x code maxLocals ret :: tables_1) h _ List.mem_cons_self)
    exact ⟨meth, c, h1, h2, h3, h4, h5, h6⟩
  · intro p e s m args below meth c s₁ B hml0 hP _
    obtain ⟨rfl, hx, hbd, hgv⟩ := hP
    obtain ⟨scr, harrAt, hlist, hof, hsmall⟩ := hx
    obtain ⟨hcb, hkn, -, -⟩ := State.arrayAt?_spec harrAt
    have hown : s.vm.findClass R_law = some m.cls := findClass_of_methodNamed B.named
    have hts0 : ∀ c ∈ (Jvm.Cond.code x code maxLocals ret :: tables_1), c.before #[Value.ref b] s = true := atoms_spec (ws := Jvm.Cond.code x code maxLocals ret :: tables_1) B.pre
    have hts : ∀ w ∈ lw_tbl, w.before #[Value.ref b] s = true := k2_hts_sels lw_privs (fun w hw => hts0 w (List.mem_cons_of_mem _ hw)) lw_privs_ok
    have hml : c.maxLocals = 4 := B.maxLocals_eq (hts0 _ List.mem_cons_self)
    have X₀ : Stand p l e room_1 s m #[Value.ref b] below meth c s₁ [] 0 0 := Stand.of_body B
    have hh0 : s₁.heap = s.heap := by rw [B.state]; rfl
    have hsz : scr.slots.size = xs.length := by rw [← Array.length_toList, hlist, List.length_map]
    have hval : ∀ j : Nat, j < xs.length → scr.slots[j]? = some (.int (xs.getD j 0)) := fun j hj => by
      rw [← Array.getElem?_toList, hlist]
      simp [hj]
    have hbl : b < s.heap.size := (Array.getElem?_eq_some_iff.mp hcb).1
    have hX : va_X b xs.length (fun j => xs.getD j 0) s s.heap := ⟨scr, hcb, hof, hkn, hsz, hval⟩
    have K : W p l e room_1 s m #[Value.ref b] below meth c s₁.heap [] 0 0 (lw_Z below #[Value.ref b] s) (entryFrame m ([Value.ref b] : List Value).toArray 4) := by
      rw [hh0]
      exact whole_start l hbd ⟨B.exec, B.bytes, B.returns, hml, hown, hts, hX, hbl, B.notSynchronized, hgv⟩
    obtain ⟨t, a1, o, b1, b2, b3⟩ := K s₁ rfl X₀
    exact ⟨t, o, a1, b1, b2, b3⟩
theorem lw_pre_spec {args : Array Value} {s : State} (h : (Jvm.Cond.and given_1 narrow_1).before args s = true) (hr : rest_1_c.before args s = true) : ∃ (b : Addr) (xs : List Int32), lw_P b xs args s := by
  have hs := flat_of_before _ h
  have hq := flat_of_before _ hr
  have hc : (Cond.count 1).before args s = true := hs _ (by decide +kernel)
  have harr : (Cond.arrayOf (.arg 0) .int).before args s = true := hs _ (by decide +kernel)
  have hle : (Cond.le (.length (.arg 0)) (.int 6)).before args s = true := hs _ (by decide +kernel)
  have hlen : (Cond.isInt (.length (.arg 0))).before args s = true := hq _ (by decide +kernel)
  have hall : (Cond.all (.arg 0) (.isInt (.elem (.arg 0) (.index 0)))).before args s = true := hq _ (by decide +kernel)
  obtain ⟨b, xs, hb, hx⟩ := State.ints_of_pre rfl harr hlen hall
  have hsm : xs.length < 2 ^ 31 := hx.choose_spec.2.2.2
  have hev : (Term.length (.arg 0)).eval args s none [] s = some (.int xs.length.toInt32) := hx.length_eval hb
  have hv := Cond.le_ints hev (show (Term.int 6).eval args s none [] s = some (.int 6) from rfl)
  have hd : xs.length.toInt32 ≤ 6 := by
    simpa [Cond.before, Cond.holds, hv] using hle
  have hN : xs.length ≤ 6 := (Int32.ofNat_le_ofNat hsm (by decide)).mp (show Int32.ofNat xs.length ≤ Int32.ofNat 6 from hd)
  exact ⟨b, xs, Cond.one_arg hc (show args[0]? = some (.ref b) from hb), hx, hN, h⟩
theorem lw_comes (l : Launch) : Comes l x (Jvm.Cond.code x code maxLocals ret :: tables_1) room_1 (fun tb e args s => Calls_1 tb e args s ∧ rest_1 tb e args s ∧ Pre_1 tb e args s)
    (fun _ _ args s o t => lw_Q args s o t) := by
  intro p e ha hc hk s m args below hf hfit hheap happ hpre
  obtain ⟨b, xs, hP⟩ := lw_pre_spec hpre.2.2 hpre.2.1
  obtain ⟨k, o, h1, h2, h3, hQ⟩ := lw_walk l b xs p e ha hc hk s m args below hf ((Spec.applies_iff_loose hf).mp happ).1 hP trivial
  exact ⟨k, o, h1, h2, h3, hQ⟩
theorem lw_frame {s t : State} {o : Outcome} {args : Array Value} (h : Framed s o t [] 600000 7302250) :
    Framed s o t (fieldLocs frame_1_writes args s ++ arrayLocs frame_1_arrays args s ++ staticLocs frame_1_statics s) 600000 7302250 := h
theorem lw_limb (L : Cond) (hL : ∀ (args : Array Value) (s t : State), L.after args s (.returned (some (.int 1))) t = true) :
    ArmFor flags0 classFile x code maxLocals ret World_1 tables_1 room_1 Calls_1 rest_1 Pre_1
      (fun tb e a s o t => postC L tb e a s o t ∧ Framed s o t (fieldLocs frame_1_writes a s ++ arrayLocs frame_1_arrays a s ++ staticLocs frame_1_statics s) 600000 7302250) := by
  intro l _ _ _ p e ha hc hk s m args below hf hfit hheap happ hpre
  obtain ⟨k, o, h1, h2, h3, rfl, hF⟩ := lw_comes l p e ha hc hk s m args below hf hfit hheap happ hpre
  exact ⟨k, _, h1, h2, h3, hL args s _, lw_frame hF⟩
theorem i_vc : Claimed_1_1 ∧ Claimed_1_2 := ⟨lw_limb limb_1_1 (fun args s t => by simp [limb_1_1, Cond.after, Cond.holds, Cond.value]), lw_limb limb_1_2 (fun args s t => Cond.after_iff.mpr (by
  first | (rw [show limb_1_2 = Cond.eq .result (.int 1) from rfl, Cond.eq_ints (x := 1) (y := 1) rfl rfl]; simp; done) | (simp [limb_1_2, Cond.value, Term.eval]; done)))⟩
