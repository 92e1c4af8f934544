theorem mw_1_23 : (.instantiable RX11 12 : Cond) ∈ wsA := wsA_t (List.mem_append_left _ (List.mem_of_getElem? (l := tables_1_1) (i := 23) rfl)) rfl
theorem mw_5_211 : (.instantiable RX12 44 : Cond) ∈ wsA := wsA_t (List.mem_append_right _ (List.mem_append_right _ (List.mem_append_right _ (List.mem_append_right _ (List.mem_append_left _ (List.mem_of_getElem? (l := tables_1_5) (i := 211) rfl)))))) rfl
theorem mw_1_22 : (.classLink RL 7 RX11 : Cond) ∈ wsA := wsA_t (List.mem_append_left _ (List.mem_of_getElem? (l := tables_1_1) (i := 22) rfl)) rfl
theorem mw_1_25 : (.instanceMethod yX11_init : Cond) ∈ wsA := wsA_t (List.mem_append_left _ (List.mem_of_getElem? (l := tables_1_1) (i := 25) rfl)) rfl
theorem mw_1_26 : (.code yX11_init cX11_init 2 none : Cond) ∈ wsA := wsA_t (List.mem_append_left _ (List.mem_of_getElem? (l := tables_1_1) (i := 26) rfl)) rfl
theorem mw_1_24 : (.methodLink RL 9 yX11_init : Cond) ∈ wsA := wsA_t (List.mem_append_left _ (List.mem_of_getElem? (l := tables_1_1) (i := 24) rfl)) rfl
theorem mw_5_210 : (.classLink RL 10 RX12 : Cond) ∈ wsA := wsA_t (List.mem_append_right _ (List.mem_append_right _ (List.mem_append_right _ (List.mem_append_right _ (List.mem_append_left _ (List.mem_of_getElem? (l := tables_1_5) (i := 210) rfl)))))) rfl
theorem mw_5_213 : (.instanceMethod yX12_init : Cond) ∈ wsA := wsA_t (List.mem_append_right _ (List.mem_append_right _ (List.mem_append_right _ (List.mem_append_right _ (List.mem_append_left _ (List.mem_of_getElem? (l := tables_1_5) (i := 213) rfl)))))) rfl
theorem mw_5_214 : (.code yX12_init cX12_init 1 none : Cond) ∈ wsA := wsA_t (List.mem_append_right _ (List.mem_append_right _ (List.mem_append_right _ (List.mem_append_right _ (List.mem_append_left _ (List.mem_of_getElem? (l := tables_1_5) (i := 214) rfl)))))) rfl
theorem mw_5_212 : (.methodLink RL 12 yX12_init : Cond) ∈ wsA := wsA_t (List.mem_append_right _ (List.mem_append_right _ (List.mem_append_right _ (List.mem_append_right _ (List.mem_append_left _ (List.mem_of_getElem? (l := tables_1_5) (i := 212) rfl)))))) rfl
theorem dL_law_0 : decode cL_law 0 = .ok (.new 7, 3) := by decide +kernel
theorem dL_law_3 : decode cL_law 3 = .ok (.dup, 1) := by decide +kernel
theorem dL_law_4 : decode cL_law 4 = .ok (.invokespecial 9, 3) := by decide +kernel
theorem dL_law_7 : decode cL_law 7 = .ok (.astore_n 1, 1) := by decide +kernel
theorem dL_law_8 : decode cL_law 8 = .ok (.new 10, 3) := by decide +kernel
theorem dL_law_11 : decode cL_law 11 = .ok (.dup, 1) := by decide +kernel
theorem dL_law_12 : decode cL_law 12 = .ok (.invokespecial 12, 3) := by decide +kernel
theorem dL_law_15 : decode cL_law 15 = .ok (.astore_n 2, 1) := by decide +kernel
theorem dL_law_16 : decode cL_law 16 = .ok (.iconst 0, 1) := by decide +kernel
theorem dL_law_17 : decode cL_law 17 = .ok (.istore_n 3, 1) := by decide +kernel
theorem mi_X11_init : MI yX11_init cX11_init 2 0 := ⟨mw_1_25, mw_1_1, mw_1_26, rfl, by decide, by decide, by decide +kernel⟩
theorem mi_X12_init : MI yX12_init cX12_init 1 0 := ⟨mw_5_213, mw_1_13, mw_5_214, rfl, by decide, by decide, by decide +kernel⟩
set_option maxHeartbeats 8000000 in
set_option maxRecDepth 100000 in
theorem whole_start {p : Program} {e : Env} {s : State} {m : MethodId} {below : List Frame} {meth : Method} {c : Code} (l : Launch) {b Ls : Nat} {xs : Nat → Int32} (hLs : Ls ≤ 3072) (C0 : lw_At p s m meth c b Ls xs) : W p l e room_1 s m #[Value.ref b] below meth c s.heap [] 0 0 (lw_Z below #[Value.ref b] s) (entryFrame m ([Value.ref b] : List Value).toArray 4) := by
  obtain ⟨hx, hb, hr, hml, hown, hts0, hX, hbl, hlocks, hgv⟩ := id C0
  have hts : ∀ w ∈ wsA, w.before #[Value.ref b] s = true := fun w h => hts0 w (wsA_in h)
  have hown : s.vm.findClass RL = some m.cls := hown
  have hA : ∀ q : Nat, s.heap.size ≤ q → (fun q : Nat => s.heap.size ≤ q) q := fun _ h => h
  obtain ⟨c0, i0, kn0⟩ := u_known (C := RX0) (T := TX0) (N := 6) (n := 6) hts lay0 (hts _ mw_2_90)
  obtain ⟨c1, i1, kn1⟩ := u_known (C := RX1) (T := TX1) (N := 9) (n := 9) hts lay1 (hts _ mw_2_120)
  obtain ⟨c2, i2, kn2⟩ := u_known (C := RX2) (T := TX2) (N := 4) (n := 4) hts lay2 (hts _ mw_2_157)
  obtain ⟨c3, i3, kn3⟩ := u_known (C := RX3) (T := TX3) (N := 11) (n := 11) hts lay3 (hts _ mw_1_69)
  obtain ⟨c4, i4, kn4⟩ := u_known (C := RX4) (T := TX4) (N := 2) (n := 2) hts lay4 (hts _ mw_1_63)
  obtain ⟨c5, i5, kn5⟩ := u_known (C := RX5) (T := TX5) (N := 3) (n := 3) hts lay5 (hts _ mw_2_40)
  obtain ⟨c6, i6, kn6⟩ := u_known (C := RX6) (T := TX6) (N := 6) (n := 6) hts lay6 (hts _ mw_2_60)
  obtain ⟨c7, i7, kn7⟩ := u_known (C := RX7) (T := TX7) (N := 8) (n := 8) hts lay7 (hts _ mw_2_177)
  obtain ⟨c8, i8, kn8⟩ := u_known (C := RX8) (T := TX8) (N := 8) (n := 8) hts lay8 (hts _ mw_1_75)
  obtain ⟨c9, i9, kn9⟩ := u_known (C := RX9) (T := TX9) (N := 7) (n := 7) hts lay9 (hts _ mw_1_31)
  obtain ⟨c10, i10, kn10⟩ := u_known (C := RX10) (T := TX10) (N := 9) (n := 9) hts lay10 (hts _ mw_1_224)
  obtain ⟨c11, i11, kn11⟩ := u_known (C := RX11) (T := TX11) (N := 12) (n := 12) hts lay11 (hts _ mw_1_23)
  obtain ⟨c12, i12, kn12⟩ := u_known (C := RX12) (T := TX12) (N := 44) (n := 44) hts lay12 (hts _ mw_5_211)
  obtain ⟨D, hKc⟩ : ∃ D : va_G, ∀ (k : Nat) (q : vw_C), vwCl[k]? = some q → u_Kn s q.1 q.2.1 q.2.2 (D.1 k) (D.2 k) := by
    refine ⟨(fun k => if k = 0 then c0 else if k = 1 then c1 else if k = 2 then c2 else if k = 3 then c3 else if k = 4 then c4 else if k = 5 then c5 else if k = 6 then c6 else if k = 7 then c7 else if k = 8 then c8 else if k = 9 then c9 else if k = 10 then c10 else if k = 11 then c11 else c12, fun k => if k = 0 then i0 else if k = 1 then i1 else if k = 2 then i2 else if k = 3 then i3 else if k = 4 then i4 else if k = 5 then i5 else if k = 6 then i6 else if k = 7 then i7 else if k = 8 then i8 else if k = 9 then i9 else if k = 10 then i10 else if k = 11 then i11 else i12), ?_⟩
    intro k q hq
    match k, hq with
    | 0, hq => cases hq; exact kn0
    | 1, hq => cases hq; exact kn1
    | 2, hq => cases hq; exact kn2
    | 3, hq => cases hq; exact kn3
    | 4, hq => cases hq; exact kn4
    | 5, hq => cases hq; exact kn5
    | 6, hq => cases hq; exact kn6
    | 7, hq => cases hq; exact kn7
    | 8, hq => cases hq; exact kn8
    | 9, hq => cases hq; exact kn9
    | 10, hq => cases hq; exact kn10
    | 11, hq => cases hq; exact kn11
    | 12, hq => cases hq; exact kn12
    | k + 13, hq => simp [vwCl] at hq
  obtain ⟨a0, ha0⟩ := arrK (ty := .byte) (fun C h => by cases h) (hts _ mw_4_14)
  obtain ⟨a1, ha1⟩ := arrK (ty := .int) (fun C h => by cases h) (hts _ mw_1_61)
  obtain ⟨a2, ha2⟩ := arrK (ty := .long) (fun C h => by cases h) (hts _ mw_2_88)
  obtain ⟨a3, ha3⟩ := arrK (ty := .boolean) (fun C h => by cases h) (hts _ mw_6_109)
  have ho4 : va_AO RX8 s := va_AO.of (hts0 (.arrayOver (.object RX8)) (List.mem_append_right _ (List.mem_append_right _ (List.mem_append_left _ (List.mem_of_getElem? (l := tables_1_2) (i := 46) rfl)))))
  obtain ⟨a4, ha4⟩ := arrO (args := #[]) ho4
  have ho5 : va_AO RX7 s := va_AO.of (hts0 (.arrayOver (.object RX7)) (List.mem_append_right _ (List.mem_append_left _ (List.mem_of_getElem? (l := tables_1_1) (i := 222) rfl))))
  obtain ⟨a5, ha5⟩ := arrO (args := #[]) ho5
  have ho6 : va_AO RX10 s := va_AO.of (hts0 (.arrayOver (.object RX10)) (List.mem_append_right _ (List.mem_append_right _ (List.mem_append_left _ (List.mem_of_getElem? (l := tables_1_2) (i := 38) rfl)))))
  obtain ⟨a6, ha6⟩ := arrO (args := #[]) ho6
  obtain ⟨cA, hcA⟩ : ∃ cA : Nat → ClassId, cA 0 = a0 ∧ cA 1 = a1 ∧ cA 2 = a2 ∧ cA 3 = a3 ∧ cA 4 = a4 ∧ cA 5 = a5 ∧ cA 6 = a6 := ⟨fun k => if k = 0 then a0 else if k = 1 then a1 else if k = 2 then a2 else if k = 3 then a3 else if k = 4 then a4 else if k = 5 then a5 else a6, rfl, rfl, rfl, rfl, rfl, rfl, rfl⟩
  obtain ⟨rfl, rfl, rfl, rfl, rfl, rfl, rfl⟩ := hcA
  have hK : va_K D vwCl (tyA cA) s := by
    refine ⟨hKc, fun k q hq => ?_⟩
    match k, hq with
    | 0, hq => cases hq; exact ha0
    | 1, hq => cases hq; exact ha1
    | 2, hq => cases hq; exact ha2
    | 3, hq => cases hq; exact ha3
    | 4, hq => cases hq; exact ha4
    | 5, hq => cases hq; exact ha5
    | 6, hq => cases hq; exact ha6
    | k + 7, hq => simp [tyA] at hq
  have hN : NW s := ⟨List.forall_mem_cons.mpr ⟨va_Nw.of rfl (hts0 (.methodLinkNest RX11 9 yX9_init RX11) (List.mem_append_right _ (List.mem_append_left _ (List.mem_of_getElem? (l := tables_1_1) (i := 32) rfl)))), List.forall_mem_cons.mpr ⟨va_Nw.of rfl (hts0 (.methodLinkNest RX11 18 yX4_init RX11) (List.mem_append_right _ (List.mem_append_left _ (List.mem_of_getElem? (l := tables_1_1) (i := 64) rfl)))), List.forall_mem_cons.mpr ⟨va_Nw.of rfl (hts0 (.methodLinkNest RX4 11 yX3_init RX11) (List.mem_append_right _ (List.mem_append_left _ (List.mem_of_getElem? (l := tables_1_1) (i := 70) rfl)))), List.forall_mem_cons.mpr ⟨va_Nw.of rfl (hts0 (.methodLinkNest RX3 29 yX8_init RX11) (List.mem_append_right _ (List.mem_append_left _ (List.mem_of_getElem? (l := tables_1_1) (i := 76) rfl)))), List.forall_mem_cons.mpr ⟨va_Nw.of rfl (hts0 (.methodLinkNest RX11 31 yX10_init RX11) (List.mem_append_right _ (List.mem_append_left _ (List.mem_of_getElem? (l := tables_1_1) (i := 225) rfl)))), List.forall_mem_cons.mpr ⟨va_Nw.of rfl (hts0 (.methodLinkNest RX10 11 yX3_init RX11) (List.mem_append_right _ (List.mem_append_left _ (List.mem_of_getElem? (l := tables_1_1) (i := 230) rfl)))), List.forall_mem_cons.mpr ⟨va_Nw.of rfl (hts0 (.methodLinkNest RX10 20 yX8_init RX11) (List.mem_append_right _ (List.mem_append_left _ (List.mem_of_getElem? (l := tables_1_1) (i := 232) rfl)))), List.forall_mem_cons.mpr ⟨va_Nw.of rfl (hts0 (.methodLinkNest RX5 15 yX8_init RX11) (List.mem_append_right _ (List.mem_append_right _ (List.mem_append_left _ (List.mem_of_getElem? (l := tables_1_2) (i := 47) rfl))))), List.forall_mem_cons.mpr ⟨va_Nw.of rfl (hts0 (.methodLinkNest RX11 49 yX6_init RX11) (List.mem_append_right _ (List.mem_append_right _ (List.mem_append_left _ (List.mem_of_getElem? (l := tables_1_2) (i := 61) rfl))))), List.forall_mem_cons.mpr ⟨va_Nw.of rfl (hts0 (.methodLinkNest RX6 22 yX8_init RX11) (List.mem_append_right _ (List.mem_append_right _ (List.mem_append_left _ (List.mem_of_getElem? (l := tables_1_2) (i := 66) rfl))))), List.forall_mem_cons.mpr ⟨va_Nw.of rfl (hts0 (.methodLinkNest RX11 56 yX0_init RX11) (List.mem_append_right _ (List.mem_append_right _ (List.mem_append_left _ (List.mem_of_getElem? (l := tables_1_2) (i := 91) rfl))))), List.forall_mem_cons.mpr ⟨va_Nw.of rfl (hts0 (.methodLinkNest RX11 63 yX1_init RX11) (List.mem_append_right _ (List.mem_append_right _ (List.mem_append_left _ (List.mem_of_getElem? (l := tables_1_2) (i := 121) rfl))))), List.forall_mem_cons.mpr ⟨va_Nw.of rfl (hts0 (.methodLinkNest RX11 70 yX2_init RX11) (List.mem_append_right _ (List.mem_append_right _ (List.mem_append_left _ (List.mem_of_getElem? (l := tables_1_2) (i := 158) rfl))))), List.forall_mem_cons.mpr ⟨va_Nw.of rfl (hts0 (.methodLinkNest RX2 20 yX8_init RX11) (List.mem_append_right _ (List.mem_append_right _ (List.mem_append_left _ (List.mem_of_getElem? (l := tables_1_2) (i := 163) rfl))))), List.forall_mem_cons.mpr ⟨va_Nw.of rfl (hts0 (.methodLinkNest RX11 75 yX7_init RX11) (List.mem_append_right _ (List.mem_append_right _ (List.mem_append_left _ (List.mem_of_getElem? (l := tables_1_2) (i := 178) rfl))))), fun _ h => absurd h List.not_mem_nil⟩⟩⟩⟩⟩⟩⟩⟩⟩⟩⟩⟩⟩⟩⟩, ho4, ho5, ho6⟩
  have hs := flat_of_before _ hgv
  have hA9 : ∀ a : Nat, a < s.heap.size → ¬ (fun q : Nat => s.heap.size ≤ q) a := fun a h => Nat.not_le.mpr h
  obtain ⟨adK, adV, hvS, hvE⟩ := vk_Sof (args := #[Value.ref b]) (s := s) (N := 2) (tm := tmS) (len := lenS) (byt := bytS) (A := fun q : Nat => s.heap.size ≤ q) (by decide) (fun i hi => hs _ (sm_ex i hi)) (fun i hi => hs _ (sm_co i hi)) (fun i hi => hs _ (sm_ar i hi)) (fun i hi => hs _ (sm_le i hi)) (fun i hi j hj => hs _ (sm_el i hi j hj)) (fun i j hi hj hij => (sm_ne i j hi hj hij).imp (hs _) (hs _)) hA9
  have hSW : SW adK adV (fun q : Nat => s.heap.size ≤ q) s s.heap := ⟨hvS, va_Zof (hts0 (.laysStatic "java/lang/String" "COMPACT_STRINGS" "Z") (List.mem_append_right _ (List.mem_append_right _ (List.mem_append_right _ (List.mem_append_left _ (List.mem_of_getElem? (l := tables_1_3) (i := 60) rfl)))))) (hts0 (.initialized "java/lang/String") (List.mem_append_right _ (List.mem_append_left _ (List.mem_of_getElem? (l := tables_1_1) (i := 14) rfl)))) (va_eqt (hs _ sm_cs)) hA9, va_Zqof (hts0 (.laysStatic "jdk/internal/util/Preconditions" "SIOOBE_FORMATTER" "Ljava/util/function/BiFunction;") (List.mem_append_right _ (List.mem_append_right _ (List.mem_append_right _ (List.mem_append_left _ (List.mem_of_getElem? (l := tables_1_3) (i := 76) rfl)))))) (hts0 (.initialized "jdk/internal/util/Preconditions") (List.mem_append_right _ (List.mem_append_left _ (List.mem_of_getElem? (l := tables_1_1) (i := 16) rfl)))) (hs _ sm_sf) hA9, vk_R.of (hts0 (.stringRef "HillBends$Tape" 59 "hill sort bend pilgrim has heap ask if or and not first second asks night ones twos passed here") (List.mem_append_right _ (List.mem_append_right _ (List.mem_append_right _ (List.mem_append_left _ (List.mem_of_getElem? (l := tables_1_3) (i := 50) rfl)))))) (hvE 0 (by decide)), vk_R.of (hts0 (.stringRef "HillBends$Tape" 71 ";[]+-*/%<=>") (List.mem_append_right _ (List.mem_append_right _ (List.mem_append_right _ (List.mem_append_left _ (List.mem_of_getElem? (l := tables_1_3) (i := 103) rfl)))))) (hvE 1 (by decide))⟩
  have hS : va_S (fun q : Nat => s.heap.size ≤ q) s.heap s.heap [] := va_S.rf
  have hV : LSS D cA (fun q : Nat => s.heap.size ≤ q) [] [] (fun _ => 999) (fun _ _ => none) (fun _ _ => 0) (fun _ _ => 0) s.heap := ⟨fun k q h => by simp [va_pl] at h, ⟨List.nodup_nil, fun a h => by cases h⟩, fun a h => by cases h⟩
  have hl := lv_entry ([.ref b]) (n := 4) (Nat.le_of_ble_eq_true rfl)
  rw [lg_entry_eq]
  generalize (lg_sl ([.ref b]) ++ List.replicate (4 - (lg_sl ([.ref b])).length) Slot.unset).toArray = ls at hl ⊢
  have hl : lv_has ls 4 [(0, .ref b)] := hl
  refine l_no (t := 11) (ci := 11) (TT := TX11) hx hb hts lay11 tyX11_ok hown mw_1_22 mw_1_23 mw_1_1 hK hV hS hA rfl rfl (fun j hj => by rcases (show j = 0 ∨ j = 1 ∨ j = 2 ∨ j = 3 ∨ j = 4 ∨ j = 5 ∨ j = 6 ∨ j = 7 ∨ j = 8 ∨ j = 9 ∨ j = 10 ∨ j = 11 by omega) with rfl | rfl | rfl | rfl | rfl | rfl | rfl | rfl | rfl | rfl | rfl | rfl <;> rfl) (Nat.le_of_ble_eq_true rfl) (Nat.le_of_ble_eq_true rfl) dL_law_0 (fun qx L1 T1 r1 σ1 ρ1 H hV mqx tqx zqx oqx hS => ?_)
  refine W.widen (k := 1) (n := 12) (Nat.le_of_ble_eq_true rfl) (Nat.le_of_ble_eq_true rfl) ?_
  refine lv_dup hx hb dL_law_3 rfl ?_
  refine l_ci (va_runI (As := []) (rest := [.ref qx]) ⟨hx, hb, hml, hown, hts⟩ (kk_X11_init_11 l D cA _ _ _ _ _ hV.2.1.1 _ qx mqx tqx zqx) (cI hts mi_X11_init mw_1_24 rfl rfl ⟨Nat.le_of_ble_eq_true rfl, Nat.le_of_ble_eq_true rfl⟩) (pS hV.1 hK hN) rfl rfl hl.1 rfl (lv_room (Nat.le_of_ble_eq_true rfl)) dL_law_4 ⟨Nat.le_of_ble_eq_true rfl, Nat.le_of_ble_eq_true rfl⟩) hV mqx hA hS tqx (fun L1 T1 r1 σ1 ρ1 H locs hV mqx tqx o2qx hS => ?_)
  refine W.widen (k := 352) (n := 9185) (Nat.le_of_ble_eq_true rfl) (Nat.le_of_ble_eq_true rfl) ?_
  refine lv_astore_n (lv' := [(1, .ref qx), (0, .ref b)]) hx hb dL_law_7 rfl hl (by decide) rfl (fun ls hl => ?_)
  refine l_no (t := 12) (ci := 12) (TT := TX12) hx hb hts lay12 tyX12_ok hown mw_5_210 mw_5_211 mw_1_13 hK hV hS hA rfl rfl (fun j hj => by rcases (show j = 0 ∨ j = 1 ∨ j = 2 ∨ j = 3 ∨ j = 4 ∨ j = 5 ∨ j = 6 ∨ j = 7 ∨ j = 8 ∨ j = 9 ∨ j = 10 ∨ j = 11 ∨ j = 12 ∨ j = 13 ∨ j = 14 ∨ j = 15 ∨ j = 16 ∨ j = 17 ∨ j = 18 ∨ j = 19 ∨ j = 20 ∨ j = 21 ∨ j = 22 ∨ j = 23 ∨ j = 24 ∨ j = 25 ∨ j = 26 ∨ j = 27 ∨ j = 28 ∨ j = 29 ∨ j = 30 ∨ j = 31 ∨ j = 32 ∨ j = 33 ∨ j = 34 ∨ j = 35 ∨ j = 36 ∨ j = 37 ∨ j = 38 ∨ j = 39 ∨ j = 40 ∨ j = 41 ∨ j = 42 ∨ j = 43 by omega) with rfl | rfl | rfl | rfl | rfl | rfl | rfl | rfl | rfl | rfl | rfl | rfl | rfl | rfl | rfl | rfl | rfl | rfl | rfl | rfl | rfl | rfl | rfl | rfl | rfl | rfl | rfl | rfl | rfl | rfl | rfl | rfl | rfl | rfl | rfl | rfl | rfl | rfl | rfl | rfl | rfl | rfl | rfl | rfl <;> rfl) (Nat.le_of_ble_eq_true rfl) (Nat.le_of_ble_eq_true rfl) dL_law_8 (fun qm L1 T1 r1 σ1 ρ1 H hV mqm tqm zqm oqm hS => ?_)
  refine W.widen (k := 353) (n := 9229) (Nat.le_of_ble_eq_true rfl) (Nat.le_of_ble_eq_true rfl) ?_
  refine lv_dup hx hb dL_law_11 rfl ?_
  obtain ⟨mqx, tq1, _⟩ := oqm qx mqx
  have tqx := tq1.trans tqx
  refine l_ci (va_runI (As := []) (rest := [.ref qm]) ⟨hx, hb, hml, hown, hts⟩ (kk_X12_init_12 l D cA _ _ _ _ _ hV.2.1.1 _ qm mqm tqm zqm) (cI hts mi_X12_init mw_5_212 rfl rfl ⟨Nat.le_of_ble_eq_true rfl, Nat.le_of_ble_eq_true rfl⟩) (pS hV.1 hK hN) rfl rfl hl.1 rfl (lv_room (Nat.le_of_ble_eq_true rfl)) dL_law_12 ⟨Nat.le_of_ble_eq_true rfl, Nat.le_of_ble_eq_true rfl⟩) hV mqm hA hS tqm (fun L1 T1 r1 σ1 ρ1 H locs hV mqm tqm o2qm hS => ?_)
  refine W.widen (k := 378) (n := 16064) (Nat.le_of_ble_eq_true rfl) (Nat.le_of_ble_eq_true rfl) ?_
  obtain ⟨mqx, tq2, _⟩ := o2qm qx mqx
  have tqx := tq2.trans tqx
  refine lv_astore_n (lv' := [(2, .ref qm), (1, .ref qx), (0, .ref b)]) hx hb dL_law_15 rfl hl (by decide) rfl (fun ls hl => ?_)
  refine lv_iconst (v := 0) hx hb dL_law_16 (by decide) ?_
  refine lv_istore_n (lv' := [(3, .int 0), (2, .ref qm), (1, .ref qx), (0, .ref b)]) hx hb dL_law_17 rfl hl (by decide) rfl (fun ls hl => ?_)
  have hG := hV.G
  have hZ := hV.Z
  obtain ⟨bw, hbw, mbw, tbw⟩ := hG qx mqx 3 _ (by rw [tqx]; rfl)
  obtain ⟨ba, hba, mba, tba⟩ := hG qx mqx 4 _ (by rw [tqx]; rfl)
  obtain ⟨bg, hbg, mbg, tbg⟩ := hG qm mqm 3 _ (by rw [tqm]; rfl)
  obtain ⟨bk, hbk, mbk, tbk⟩ := hG qm mqm 5 _ (by rw [tqm]; rfl)
  obtain ⟨bc, hbc, mbc, tbc⟩ := hG qm mqm 6 _ (by rw [tqm]; rfl)
  obtain ⟨bx, hbx, mbx, tbx⟩ := hG qm mqm 42 _ (by rw [tqm]; rfl)
  obtain ⟨bi, hbi, mbi, tbi⟩ := hG qm mqm 43 _ (by rw [tqm]; rfl)
  obtain ⟨bf, hbf, mbf, tbf⟩ := hG qm mqm 41 _ (by rw [tqm]; rfl)
  obtain ⟨w0, hw0, mw0, tw0⟩ := hG ba mba 0 _ (by rw [tba]; rfl)
  obtain ⟨w1, hw1, mw1, tw1⟩ := hG ba mba 1 _ (by rw [tba]; rfl)
  obtain ⟨w2, hw2, mw2, tw2⟩ := hG ba mba 2 _ (by rw [tba]; rfl)
  obtain ⟨w3, hw3, mw3, tw3⟩ := hG ba mba 3 _ (by rw [tba]; rfl)
  have hLG : LG T1 qx bw w0 w1 w2 w3 qm bg bk bc bx bi bf := ⟨tqx, tbw, tw0, tw1, tw2, tw3, tqm, tbg, tbk, tbc, tbx, tbi, tbf⟩
  have zm2 : σ1 qm 2 = 0 := by rw [hZ qm mqm 2, tqm]; decide
  have zm21 : σ1 qm 21 = -1 := by rw [hZ qm mqm 21, tqm]; decide
  have zm22 : σ1 qm 22 = 0 := by rw [hZ qm mqm 22, tqm]; decide
  have zbw : σ1 bw 8 = 0 := by rw [hZ bw mbw 8, tbw]; decide
  have zqx : σ1 qx 11 = 0 := by rw [hZ qx mqx 11, tqx]; decide
  have zw0 : σ1 w0 8 = 0 := by rw [hZ w0 mw0 8, tw0]; decide
  have zw1 : σ1 w1 8 = 0 := by rw [hZ w1 mw1 8, tw1]; decide
  have zw2 : σ1 w2 8 = 0 := by rw [hZ w2 mw2 8, tw2]; decide
  have zw3 : σ1 w3 8 = 0 := by rw [hZ w3 mw3 8, tw3]; decide
  have zx0 : σ1 bx 0 = 0 := by rw [hZ bx mbx 0, tbx]; decide
  have zx1 : σ1 bx 1 = 0 := by rw [hZ bx mbx 1, tbx]; decide
  have zx2 : σ1 bx 2 = 0 := by rw [hZ bx mbx 2, tbx]; decide
  have zx3 : σ1 bx 3 = 0 := by rw [hZ bx mbx 3, tbx]; decide
  have zi0 : σ1 bi 0 = 0 := by rw [hZ bi mbi 0, tbi]; decide
  have zi1 : σ1 bi 1 = 0 := by rw [hZ bi mbi 1, tbi]; decide
  have zi2 : σ1 bi 2 = 0 := by rw [hZ bi mbi 2, tbi]; decide
  have zi3 : σ1 bi 3 = 0 := by rw [hZ bi mbi 3, tbi]; decide
  have hI : LI σ1 qx bw w0 w1 w2 w3 qm bg bk bc bx bi bf := by
    refine ⟨fun r i hr => ?_, ?_, fun j hj hn => ?_, ?_, ?_, ?_⟩
    · rw [zm2] at hr; exact absurd hr (by rw [show (0 : Int32).toInt.toNat = 0 from by decide]; omega)
    · rw [zm2, zm21]; decide
    · exfalso; apply hn; rw [hZ bi mbi j, tbi, i0_85]; decide
    · rw [zbw, zm22]
    · rw [zw0, zw1, zw2, zw3, zx0, zx1, zx2, zx3]; exact ⟨rfl, rfl, rfl, rfl⟩
    · rw [zqx, zi0, zi1, zi2, zi3]; decide
  exact law_body l hLs hx hb hr hml hown hts hX hbl hlocks D cA hK hN adK adV L1 T1 r1 hV.2.1 hG ⟨hSW, hV.2.1.2⟩ qx mqx tqx bw mbw tbw w0 mw0 tw0 w1 mw1 tw1 w2 mw2 tw2 w3 mw3 tw3 qm mqm tqm bg mbg tbg bk mbk tbk bc mbc tbc bx mbx tbx bi mbi tbi bf mbf tbf ba mba tba hbw hba hbg hbk hbc hbx hbi hbf hw0 hw1 hw2 hw3 hLG σ1 ρ1 H hV.1 (fun a ha j => by rw [hZ a ha j]; exact ry_ini _ _) hI locs hS ls hl

set_option maxHeartbeats 4000000 in
theorem lw_walk (l : Launch) (b : Addr) (xs : List Int32) : MetFree l x (headSpec (Jvm.Cond.code x code maxLocals ret :: tables_1) room_1) (lw_P b xs) (fun _ _ _ _ _ => True) lw_Q := by
  refine MetFree.of_bodyS (code := code) (maxLocals := maxLocals) (ret := ret) (by decide) ?_ ?_
  · intro args s m h hn
    obtain ⟨meth, c, h1, h2, h3, h4, h5, h6, -, -⟩ := Cond.code_spec hn (atoms_spec (ws := Jvm.Cond.code x code maxLocals ret :: tables_1) h _ List.mem_cons_self)
    exact ⟨meth, c, h1, h2, h3, h4, h5, h6⟩
  · intro p e s m args below meth c s₁ B hml0 hP _
    obtain ⟨rfl, hx, hbd, hgv⟩ := hP
    obtain ⟨scr, harrAt, hlist, hof, hsmall⟩ := hx
    obtain ⟨hcb, hkn, -, -⟩ := State.arrayAt?_spec harrAt
    have hown : s.vm.findClass R_law = some m.cls := findClass_of_methodNamed B.named
    have hts0 : ∀ c ∈ (Jvm.Cond.code x code maxLocals ret :: tables_1), c.before #[Value.ref b] s = true := atoms_spec (ws := Jvm.Cond.code x code maxLocals ret :: tables_1) B.pre
    have hts : ∀ w ∈ lw_tbl, w.before #[Value.ref b] s = true := k2_hts_sels lw_privs (fun w hw => hts0 w (List.mem_cons_of_mem _ hw)) lw_privs_ok
    have hml : c.maxLocals = 4 := B.maxLocals_eq (hts0 _ List.mem_cons_self)
    have X₀ : Stand p l e room_1 s m #[Value.ref b] below meth c s₁ [] 0 0 := Stand.of_body B
    have hh0 : s₁.heap = s.heap := by rw [B.state]; rfl
    have hsz : scr.slots.size = xs.length := by rw [← Array.length_toList, hlist, List.length_map]
    have hval : ∀ j : Nat, j < xs.length → scr.slots[j]? = some (.int (xs.getD j 0)) := fun j hj => by
      rw [← Array.getElem?_toList, hlist]
      simp [hj]
    have hbl : b < s.heap.size := (Array.getElem?_eq_some_iff.mp hcb).1
    have hX : va_X b xs.length (fun j => xs.getD j 0) s s.heap := ⟨scr, hcb, hof, hkn, hsz, hval⟩
    have K : W p l e room_1 s m #[Value.ref b] below meth c s₁.heap [] 0 0 (lw_Z below #[Value.ref b] s) (entryFrame m ([Value.ref b] : List Value).toArray 4) := by
      rw [hh0]
      exact whole_start l hbd ⟨B.exec, B.bytes, B.returns, hml, hown, hts, hX, hbl, B.notSynchronized, hgv⟩
    obtain ⟨t, a1, o, b1, b2, b3⟩ := K s₁ rfl X₀
    exact ⟨t, o, a1, b1, b2, b3⟩
theorem lw_pre_spec {args : Array Value} {s : State} (h : (Jvm.Cond.and given_1 narrow_1).before args s = true) (hr : rest_1_c.before args s = true) : ∃ (b : Addr) (xs : List Int32), lw_P b xs args s := by
  have hs := flat_of_before _ h
  have hq := flat_of_before _ hr
  have hc : (Cond.count 1).before args s = true := hs _ (by decide +kernel)
  have harr : (Cond.arrayOf (.arg 0) .int).before args s = true := hs _ (by decide +kernel)
  have hle : (Cond.le (.length (.arg 0)) (.int 3072)).before args s = true := hs _ (by decide +kernel)
  have hlen : (Cond.isInt (.length (.arg 0))).before args s = true := hq _ (by decide +kernel)
  have hall : (Cond.all (.arg 0) (.isInt (.elem (.arg 0) (.index 0)))).before args s = true := hq _ (by decide +kernel)
  obtain ⟨b, xs, hb, hx⟩ := State.ints_of_pre rfl harr hlen hall
  have hsm : xs.length < 2 ^ 31 := hx.choose_spec.2.2.2
  have hev : (Term.length (.arg 0)).eval args s none [] s = some (.int xs.length.toInt32) := hx.length_eval hb
  have hv := Cond.le_ints hev (show (Term.int 3072).eval args s none [] s = some (.int 3072) from rfl)
  have hd : xs.length.toInt32 ≤ 3072 := by
    simpa [Cond.before, Cond.holds, hv] using hle
  have hN : xs.length ≤ 3072 := (Int32.ofNat_le_ofNat hsm (by decide)).mp (show Int32.ofNat xs.length ≤ Int32.ofNat 3072 from hd)
  exact ⟨b, xs, Cond.one_arg hc (show args[0]? = some (.ref b) from hb), hx, hN, h⟩
theorem lw_comes (l : Launch) : Comes l x (Jvm.Cond.code x code maxLocals ret :: tables_1) room_1 (fun tb e args s => Calls_1 tb e args s ∧ rest_1 tb e args s ∧ Pre_1 tb e args s)
    (fun _ _ args s o t => lw_Q args s o t) := by
  intro p e ha hc hk s m args below hf hfit hheap happ hpre
  obtain ⟨b, xs, hP⟩ := lw_pre_spec hpre.2.2 hpre.2.1
  obtain ⟨k, o, h1, h2, h3, hQ⟩ := lw_walk l b xs p e ha hc hk s m args below hf ((Spec.applies_iff_loose hf).mp happ).1 hP trivial
  exact ⟨k, o, h1, h2, h3, hQ⟩
theorem lw_frame {s t : State} {o : Outcome} {args : Array Value} (h : Framed s o t [] 600000 7302250) :
    Framed s o t (fieldLocs frame_1_writes args s ++ arrayLocs frame_1_arrays args s ++ staticLocs frame_1_statics s) 600000 7302250 := h
theorem lw_limb (L : Cond) (hL : ∀ (args : Array Value) (s t : State), L.after args s (.returned (some (.int 1))) t = true) :
    ArmFor flags0 classFile x code maxLocals ret World_1 tables_1 room_1 Calls_1 rest_1 Pre_1
      (fun tb e a s o t => postC L tb e a s o t ∧ Framed s o t (fieldLocs frame_1_writes a s ++ arrayLocs frame_1_arrays a s ++ staticLocs frame_1_statics s) 600000 7302250) := by
  intro l _ _ _ p e ha hc hk s m args below hf hfit hheap happ hpre
  obtain ⟨k, o, h1, h2, h3, rfl, hF⟩ := lw_comes l p e ha hc hk s m args below hf hfit hheap happ hpre
  exact ⟨k, _, h1, h2, h3, hL args s _, lw_frame hF⟩
theorem i_vc : Claimed_1_1 ∧ Claimed_1_2 := ⟨lw_limb limb_1_1 (fun args s t => by simp [limb_1_1, Cond.after, Cond.holds, Cond.value]), lw_limb limb_1_2 (fun args s t => Cond.after_iff.mpr (by
  first | (rw [show limb_1_2 = Cond.eq .result (.int 1) from rfl, Cond.eq_ints (x := 1) (y := 1) rfl rfl]; simp; done) | (simp [limb_1_2, Cond.value, Term.eval]; done)))⟩
