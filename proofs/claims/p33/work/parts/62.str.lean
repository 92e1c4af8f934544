def lenS : List Nat := [95, 11]
def bytS : List (List Int32) := [[104, 105, 108, 108, 32, 115, 111, 114, 116, 32, 98, 101, 110, 100, 32, 112, 105, 108, 103, 114, 105, 109, 32, 104, 97, 115, 32, 104, 101, 97, 112, 32, 97, 115, 107, 32, 105, 102, 32, 111, 114, 32, 97, 110, 100, 32, 110, 111, 116, 32, 102, 105, 114, 115, 116, 32, 115, 101, 99, 111, 110, 100, 32, 97, 115, 107, 115, 32, 110, 105, 103, 104, 116, 32, 111, 110, 101, 115, 32, 116, 119, 111, 115, 32, 112, 97, 115, 115, 101, 100, 32, 104, 101, 114, 101], [59, 91, 93, 43, 45, 42, 47, 37, 60, 61, 62]]
def SW (adK adV : Nat → Nat) (A : Nat → Prop) (U : State) (H : Heap) : Prop := vk_S 2 lenS bytS adK adV A U H ∧ va_Z "java/lang/String" "COMPACT_STRINGS" "Z" (.int 1) A U H ∧ va_Zq "jdk/internal/util/Preconditions" "SIOOBE_FORMATTER" "Ljava/util/function/BiFunction;" A U H ∧ vk_R RX9 59 "hill sort bend pilgrim has heap ask if or and not first second asks night ones twos passed here" (adK 0) U ∧ vk_R RX9 71 ";[]+-*/%<=>" (adK 1) U
theorem SW.to {adK adV : Nat → Nat} {L : List Nat} {s : State} {H : Heap} {locs : List Loc} (h : SW adK adV (dm L s.heap.size) s s.heap) (hS : va_S (dm L s.heap.size) s.heap H locs) : SW adK adV (dm L H.size) s H := by
  have hn : ∀ q, dm L H.size q → dm L s.heap.size q := fun q h => h.imp id (fun z => Nat.le_trans hS.1 z)
  exact ⟨(h.1.kept hS.2.1).narrow hn, (h.2.1.kept hS.2.1).narrow hn, (h.2.2.1.kept hS.2.1).narrow hn, h.2.2.2⟩
theorem SW.warm {adK adV : Nat → Nat} {A : Nat → Prop} {s U : State} {H : Heap} (hW : s.WarmedH U.vm) (h : SW adK adV A s H) : SW adK adV A U H := ⟨h.1.moved hW.alike, h.2.1.moved hW.alike, h.2.2.1.moved hW.alike, h.2.2.2.1.warm hW, h.2.2.2.2.warm hW⟩
theorem SW.same {adK adV : Nat → Nat} {A : Nat → Prop} {s U : State} {H : Heap} (hv : U.vm = s.vm) (h : SW adK adV A s H) : SW adK adV A U H := ⟨h.1.moved (by rw [hv]; exact Vm.Alike.refl _), h.2.1.moved (by rw [hv]; exact Vm.Alike.refl _), h.2.2.1.moved (by rw [hv]; exact Vm.Alike.refl _), h.2.2.2.1.same hv, h.2.2.2.2.same hv⟩
abbrev PZ (adK adV : Nat → Nat) (D : va_G) (cA : Nat → ClassId) (L : List Nat) (T : Nat → Nat) (r : Rg) (σ : Sg) (ρ : Lg) (sz : Nat) (av : List Value) : Array Value → State → Prop := va_Pc av (fun U => U.heap.size = sz ∧ TP D cA L T r σ ρ U.heap ∧ va_K D vwCl (tyA cA) U ∧ NW U ∧ SW adK adV (dm L U.heap.size) U U.heap)
theorem PZ.blind {adK adV : Nat → Nat} {D : va_G} {cA : Nat → ClassId} {L : List Nat} {T : Nat → Nat} {r : Rg} {σ : Sg} {ρ : Lg} {sz : Nat} {av : List Value} : FrameBlind (PZ adK adV D cA L T r σ ρ sz av) := fun a U g mk q => by
  obtain ⟨q0, q1, qP, qK, qN, qV⟩ := q
  exact ⟨q0, q1, qP, va_K.moved (u := U) (U := U.calling g mk a) (Vm.Alike.refl U.vm) qK, NW.same (u := U) (U := U.calling g mk a) rfl qN, SW.same (s := U) (U := U.calling g mk a) rfl qV⟩
theorem pSz {adK adV : Nat → Nat} {D : va_G} {cA : Nat → ClassId} {L : List Nat} {T : Nat → Nat} {r : Rg} {σ : Sg} {ρ : Lg} {av : List Value} {s : State} {H : Heap} (hP : TP D cA L T r σ ρ H) (hK : va_K D vwCl (tyA cA) s) (hN : NW s) (hV : SW adK adV (dm L H.size) s H) : PreS s H (PZ adK adV D cA L T r σ ρ H.size av) av :=
  ⟨PZ.blind, fun U hU hW => ⟨rfl, by rw [hU], by rw [hU]; exact hP, va_K.moved hW.alike hK, hN.warm hW, by rw [hU]; exact hV.warm hW⟩⟩
theorem pVz {adK adV : Nat → Nat} {D : va_G} {cA : Nat → ClassId} {L : List Nat} {T : Nat → Nat} {r : Rg} {σ : Sg} {ρ : Lg} {av : List Value} {s : State} {H : Heap} {b t ci N : Nat} {C : String} {TT : u_T} {fs : List Value} (hP : TP D cA L T r σ ρ H) (hK : va_K D vwCl (tyA cA) s) (hN : NW s) (hb : b ∈ L) (ht : T b = t) (hs : shp cA t (r b) (σ b) (ρ b) = .inr (ci, fs)) (hc : vwCl[ci]? = some (C, TT, N)) (hV : SW adK adV (dm L H.size) s H) : PreV s H C b (PZ adK adV D cA L T r σ ρ H.size (.ref b :: av)) av := by
  obtain ⟨k, hk⟩ := hP.at hb ht hs
  exact ⟨PZ.blind, va_recv hK hP hc hk, fun U hU hW => ⟨rfl, by rw [hU], by rw [hU]; exact hP, va_K.moved hW.alike hK, hN.warm hW, by rw [hU]; exact hV.warm hW⟩⟩
theorem pK {adK adV : Nat → Nat} {D : va_G} {cA : Nat → ClassId} {L : List Nat} {T : Nat → Nat} {r : Rg} {σ : Sg} {ρ : Lg} {av : List Value} {s : State} {H : Heap} (hP : TP D cA L T r σ ρ H) (hK : va_K D vwCl (tyA cA) s) (hN : NW s) (hV : SW adK adV (dm L H.size) s H) {i : Nat} (hi : i < 2) : PreV s H RJ0 (adK i) (PZ adK adV D cA L T r σ ρ H.size (.ref (adK i) :: av)) av := by
  obtain ⟨cell, h1, h2, h3, -⟩ := (hV.1.1 i hi).1
  exact ⟨PZ.blind, ⟨cell, h1, h2, h3⟩, fun U hU hW => ⟨rfl, by rw [hU], by rw [hU]; exact hP, va_K.moved hW.alike hK, hN.warm hW, by rw [hU]; exact hV.warm hW⟩⟩
theorem n_char {x : Int32} (h1 : 0 ≤ x.toInt) (h2 : x.toInt ≤ 65535) : narrow .char (.int x) = .int x := by
  show Value.int x.toUInt32.toUInt16.toUInt32.toInt32 = .int x
  congr 1
  apply Int32.toBitVec_inj.mp
  apply BitVec.eq_of_toNat_eq
  have e := BitVec.toInt_eq_toNat_cond x.toBitVec
  rw [Int32.toInt_toBitVec x] at e
  have hlt := x.toBitVec.isLt
  have hx : x.toBitVec.toNat < 65536 := by split at e <;> omega
  show ((x.toBitVec.setWidth 16).setWidth 32).toNat = x.toBitVec.toNat
  rw [BitVec.toNat_setWidth, BitVec.toNat_setWidth]
  omega
theorem c_rng {x z : Int32} (h : z = (x.toUInt32 % 65536).toInt32) : 0 ≤ z.toInt ∧ z.toInt ≤ 65535 := by
  have hx : z.toBitVec.toNat < 65536 := by
    rw [h]
    show (x.toUInt32 % 65536).toBitVec.toNat < 65536
    rw [UInt32.toBitVec_mod, BitVec.toNat_umod]
    exact Nat.mod_lt _ (by decide)
  have e := BitVec.toInt_eq_toNat_cond z.toBitVec
  rw [Int32.toInt_toBitVec z, if_pos (by omega)] at e
  omega
theorem mw_3_59 : (.fieldLink RJ0 38 "java/lang/String" "COMPACT_STRINGS" "Z" : Cond) ∈ wsA := wsA_t (List.mem_append_right _ (List.mem_append_right _ (List.mem_append_left _ (List.mem_of_getElem? (l := tables_1_3) (i := 59) rfl)))) rfl
theorem mw_8_144 : (.fieldLink RJ0 15 "java/lang/String" "coder" "B" : Cond) ∈ wsA := wsA_t (List.mem_append_right _ (List.mem_append_right _ (List.mem_append_right _ (List.mem_append_right _ (List.mem_append_right _ (List.mem_append_right _ (List.mem_append_right _ (List.mem_of_getElem? (l := tables_1_8) (i := 144) rfl)))))))) rfl
theorem dJ0_coder_7d493_0 : decode cJ0_coder_7d493 0 = .ok (.getstatic 38, 3) := by decide +kernel
theorem dJ0_coder_7d493_3 : decode cJ0_coder_7d493 3 = .ok (.ifCond .eq 10, 3) := by decide +kernel
theorem dJ0_coder_7d493_6 : decode cJ0_coder_7d493 6 = .ok (.aload_n 0, 1) := by decide +kernel
theorem dJ0_coder_7d493_7 : decode cJ0_coder_7d493 7 = .ok (.getfield 15, 3) := by decide +kernel
theorem dJ0_coder_7d493_10 : decode cJ0_coder_7d493 10 = .ok (.goto 4, 3) := by decide +kernel
theorem dJ0_coder_7d493_14 : decode cJ0_coder_7d493 14 = .ok (.ireturn, 1) := by decide +kernel
set_option maxHeartbeats 4000000 in
set_option maxRecDepth 100000 in
theorem cs_J0_coder_7d493_0 (l : Launch) (D : va_G) (cA : Nat → ClassId) (L : List Nat) (T : Nat → Nat) (r : Rg) (hG : GR L T r) (hL : L.Nodup) (σ : Sg) (ρ : Lg) (hW : WT L ry T σ) (sz : Nat) (adK adV : Nat → Nat) : Met l yJ0_coder_7d493 (.code yJ0_coder_7d493 cJ0_coder_7d493 1 (some .byte) :: wsA) ({ frames := 0, cells := 0, slots := 0, locals := 0 }) (PZ adK adV D cA L T r σ ρ sz [.ref (adK 0)]) (QI D cA L T r ry ([] : List (Nat × Nat)) σ sz (fun x σ1 => x = 0)) 0 0 (dm L sz) := by
  refine Met.ofW (cc := cJ0_coder_7d493) (maxL := 1) (ret := (some .byte)) (by decide) rfl ?_
  intro p e s m args below meth c s₁ B hml hv
  obtain ⟨rfl, hsz, hP, hK, hN, hV⟩ := hv
  have hx := B.exec
  have hb := B.bytes
  have hr := B.returns
  have hts : ∀ w ∈ wsA, w.before _ s = true := fun w h => atoms_spec (ws := .code yJ0_coder_7d493 cJ0_coder_7d493 1 (some .byte) :: wsA) B.pre w (List.mem_cons_of_mem _ h)
  have hown : s.vm.findClass RJ0 = some m.cls := findClass_of_methodNamed B.named
  subst hsz
  have hLA : LA (dm L s.heap.size) L := ⟨hL, fun a h => Or.inl h⟩
  have hA : ∀ q : Nat, s.heap.size ≤ q → dm L s.heap.size q := fun q h => Or.inr h
  have hS : va_S (dm L s.heap.size) s.heap s.heap [] := va_S.rf
  have hB : TS D cA L T r ry ([] : List (Nat × Nat)) σ σ ρ s.heap := ⟨hP, hW, FR.rf⟩
  have hl := lv_entry ([.ref (adK 0)]) (n := 1) (Nat.le_of_ble_eq_true rfl)
  rw [lg_entry_eq]
  generalize (lg_sl ([.ref (adK 0)]) ++ List.replicate (1 - (lg_sl ([.ref (adK 0)])).length) Slot.unset).toArray = ls at hl ⊢
  have hl : lv_has ls 1 [(0, .ref (adK 0))] := hl
  refine va_gets hx hb hV.2.1 hS hown (hts _ mw_3_59) (fun _ h => h) dJ0_coder_7d493_0 ?_
  refine lv_if_eq (tgt := 13) hx hb dJ0_coder_7d493_3 (by decide) (fun c9 => absurd c9 (by decide)) (fun _ => ?_)
  refine lv_aload_n hx hb dJ0_coder_7d493_6 rfl (lv_at hl 0 rfl) ?_
  refine vk_getf hx hb (hV.1.1 0 (by decide)).2.1 hS hown (hts _ mw_8_144) (fun _ h => h) dJ0_coder_7d493_7 ?_
  refine lv_goto (tgt := 14) hx hb dJ0_coder_7d493_10 (by decide) ?_
  exact W.zret (v := 0) hx hb hr rfl (fun t ht hW => ⟨⟨0, (σ, ρ), rfl, ⟨hB.2.1, hB.2.2, rfl⟩, (show TP D cA L T r σ ρ t.heap from by rw [ht]; exact hB.1)⟩, hS.F ht⟩) hS.2.2 dJ0_coder_7d493_14
theorem dJ0_isLatin1_aae02_0 : decode cJ0_isLatin1_aae02 0 = .ok (.getstatic 38, 3) := by decide +kernel
theorem dJ0_isLatin1_aae02_3 : decode cJ0_isLatin1_aae02 3 = .ok (.ifCond .eq 14, 3) := by decide +kernel
theorem dJ0_isLatin1_aae02_6 : decode cJ0_isLatin1_aae02 6 = .ok (.aload_n 0, 1) := by decide +kernel
theorem dJ0_isLatin1_aae02_7 : decode cJ0_isLatin1_aae02 7 = .ok (.getfield 15, 3) := by decide +kernel
theorem dJ0_isLatin1_aae02_10 : decode cJ0_isLatin1_aae02 10 = .ok (.ifCond .ne 7, 3) := by decide +kernel
theorem dJ0_isLatin1_aae02_13 : decode cJ0_isLatin1_aae02 13 = .ok (.iconst 1, 1) := by decide +kernel
theorem dJ0_isLatin1_aae02_14 : decode cJ0_isLatin1_aae02 14 = .ok (.goto 4, 3) := by decide +kernel
theorem dJ0_isLatin1_aae02_18 : decode cJ0_isLatin1_aae02 18 = .ok (.ireturn, 1) := by decide +kernel
set_option maxHeartbeats 4000000 in
set_option maxRecDepth 100000 in
theorem cs_J0_isLatin1_aae02_0 (l : Launch) (D : va_G) (cA : Nat → ClassId) (L : List Nat) (T : Nat → Nat) (r : Rg) (hG : GR L T r) (hL : L.Nodup) (σ : Sg) (ρ : Lg) (hW : WT L ry T σ) (sz : Nat) (adK adV : Nat → Nat) : Met l yJ0_isLatin1_aae02 (.code yJ0_isLatin1_aae02 cJ0_isLatin1_aae02 1 (some .boolean) :: wsA) ({ frames := 0, cells := 0, slots := 0, locals := 0 }) (PZ adK adV D cA L T r σ ρ sz [.ref (adK 0)]) (QI D cA L T r ry ([] : List (Nat × Nat)) σ sz (fun x σ1 => x = 1)) 0 0 (dm L sz) := by
  refine Met.ofW (cc := cJ0_isLatin1_aae02) (maxL := 1) (ret := (some .boolean)) (by decide) rfl ?_
  intro p e s m args below meth c s₁ B hml hv
  obtain ⟨rfl, hsz, hP, hK, hN, hV⟩ := hv
  have hx := B.exec
  have hb := B.bytes
  have hr := B.returns
  have hts : ∀ w ∈ wsA, w.before _ s = true := fun w h => atoms_spec (ws := .code yJ0_isLatin1_aae02 cJ0_isLatin1_aae02 1 (some .boolean) :: wsA) B.pre w (List.mem_cons_of_mem _ h)
  have hown : s.vm.findClass RJ0 = some m.cls := findClass_of_methodNamed B.named
  subst hsz
  have hLA : LA (dm L s.heap.size) L := ⟨hL, fun a h => Or.inl h⟩
  have hA : ∀ q : Nat, s.heap.size ≤ q → dm L s.heap.size q := fun q h => Or.inr h
  have hS : va_S (dm L s.heap.size) s.heap s.heap [] := va_S.rf
  have hB : TS D cA L T r ry ([] : List (Nat × Nat)) σ σ ρ s.heap := ⟨hP, hW, FR.rf⟩
  have hl := lv_entry ([.ref (adK 0)]) (n := 1) (Nat.le_of_ble_eq_true rfl)
  rw [lg_entry_eq]
  generalize (lg_sl ([.ref (adK 0)]) ++ List.replicate (1 - (lg_sl ([.ref (adK 0)])).length) Slot.unset).toArray = ls at hl ⊢
  have hl : lv_has ls 1 [(0, .ref (adK 0))] := hl
  refine va_gets hx hb hV.2.1 hS hown (hts _ mw_3_59) (fun _ h => h) dJ0_isLatin1_aae02_0 ?_
  refine lv_if_eq (tgt := 17) hx hb dJ0_isLatin1_aae02_3 (by decide) (fun c9 => absurd c9 (by decide)) (fun _ => ?_)
  refine lv_aload_n hx hb dJ0_isLatin1_aae02_6 rfl (lv_at hl 0 rfl) ?_
  refine vk_getf hx hb (hV.1.1 0 (by decide)).2.1 hS hown (hts _ mw_8_144) (fun _ h => h) dJ0_isLatin1_aae02_7 ?_
  refine lv_if_ne (tgt := 17) hx hb dJ0_isLatin1_aae02_10 (by decide) (fun c9 => absurd (by decide) c9) (fun _ => ?_)
  refine lv_iconst (v := 1) hx hb dJ0_isLatin1_aae02_13 (by decide) ?_
  refine lv_goto (tgt := 18) hx hb dJ0_isLatin1_aae02_14 (by decide) ?_
  exact W.zret (v := 1) hx hb hr rfl (fun t ht hW => ⟨⟨1, (σ, ρ), rfl, ⟨hB.2.1, hB.2.2, rfl⟩, (show TP D cA L T r σ ρ t.heap from by rw [ht]; exact hB.1)⟩, hS.F ht⟩) hS.2.2 dJ0_isLatin1_aae02_18
theorem mw_8_143 : (.fieldLink RJ0 9 "java/lang/String" "value" "[B" : Cond) ∈ wsA := wsA_t (List.mem_append_right _ (List.mem_append_right _ (List.mem_append_right _ (List.mem_append_right _ (List.mem_append_right _ (List.mem_append_right _ (List.mem_append_right _ (List.mem_of_getElem? (l := tables_1_8) (i := 143) rfl)))))))) rfl
theorem mw_3_56 : (.instanceMethod yJ0_coder_7d493 : Cond) ∈ wsA := wsA_t (List.mem_append_right _ (List.mem_append_right _ (List.mem_append_left _ (List.mem_of_getElem? (l := tables_1_3) (i := 56) rfl)))) rfl
theorem mw_3_57 : (.selects RJ0 yJ0_coder_7d493 yJ0_coder_7d493 : Cond) ∈ wsA := wsA_t (List.mem_append_right _ (List.mem_append_right _ (List.mem_append_left _ (List.mem_of_getElem? (l := tables_1_3) (i := 57) rfl)))) rfl
theorem mw_1_14 : (.initialized RJ0 : Cond) ∈ wsA := wsA_t (List.mem_append_left _ (List.mem_of_getElem? (l := tables_1_1) (i := 14) rfl)) rfl
theorem mw_3_58 : (.code yJ0_coder_7d493 cJ0_coder_7d493 1 (some .byte) : Cond) ∈ wsA := wsA_t (List.mem_append_right _ (List.mem_append_right _ (List.mem_append_left _ (List.mem_of_getElem? (l := tables_1_3) (i := 58) rfl)))) rfl
theorem mw_3_55 : (.methodLink RJ0 335 yJ0_coder_7d493 : Cond) ∈ wsA := wsA_t (List.mem_append_right _ (List.mem_append_right _ (List.mem_append_left _ (List.mem_of_getElem? (l := tables_1_3) (i := 55) rfl)))) rfl
theorem dJ0_length_8abf5_0 : decode cJ0_length_8abf5 0 = .ok (.aload_n 0, 1) := by decide +kernel
theorem dJ0_length_8abf5_1 : decode cJ0_length_8abf5 1 = .ok (.getfield 9, 3) := by decide +kernel
theorem dJ0_length_8abf5_4 : decode cJ0_length_8abf5 4 = .ok (.arraylength, 1) := by decide +kernel
theorem dJ0_length_8abf5_5 : decode cJ0_length_8abf5 5 = .ok (.aload_n 0, 1) := by decide +kernel
theorem dJ0_length_8abf5_6 : decode cJ0_length_8abf5 6 = .ok (.invokevirtual 335, 3) := by decide +kernel
theorem dJ0_length_8abf5_9 : decode cJ0_length_8abf5 9 = .ok (.ishr, 1) := by decide +kernel
theorem dJ0_length_8abf5_10 : decode cJ0_length_8abf5 10 = .ok (.ireturn, 1) := by decide +kernel
theorem mv_J0_coder_7d493 : MV RJ0 yJ0_coder_7d493 cJ0_coder_7d493 1 (some .byte) 0 := ⟨mw_3_56, mw_3_57, mw_1_14, mw_3_58, ⟨rfl, by decide, by decide, by decide +kernel⟩⟩
set_option maxHeartbeats 4000000 in
set_option maxRecDepth 100000 in
theorem cs_J0_length_8abf5_0 (l : Launch) (D : va_G) (cA : Nat → ClassId) (L : List Nat) (T : Nat → Nat) (r : Rg) (hG : GR L T r) (hL : L.Nodup) (σ : Sg) (ρ : Lg) (hW : WT L ry T σ) (sz : Nat) (adK adV : Nat → Nat) : Met l yJ0_length_8abf5 (.code yJ0_length_8abf5 cJ0_length_8abf5 1 (some .int) :: wsA) ({ frames := 1, cells := 0, slots := 0, locals := 20 }) (PZ adK adV D cA L T r σ ρ sz [.ref (adK 0)]) (QI D cA L T r ry ([] : List (Nat × Nat)) σ sz (fun x σ1 => x = 95)) 0 0 (dm L sz) := by
  refine Met.ofW (cc := cJ0_length_8abf5) (maxL := 1) (ret := (some .int)) (by decide) rfl ?_
  intro p e s m args below meth c s₁ B hml hv
  obtain ⟨rfl, hsz, hP, hK, hN, hV⟩ := hv
  have hx := B.exec
  have hb := B.bytes
  have hr := B.returns
  have hts : ∀ w ∈ wsA, w.before _ s = true := fun w h => atoms_spec (ws := .code yJ0_length_8abf5 cJ0_length_8abf5 1 (some .int) :: wsA) B.pre w (List.mem_cons_of_mem _ h)
  have hown : s.vm.findClass RJ0 = some m.cls := findClass_of_methodNamed B.named
  subst hsz
  have hLA : LA (dm L s.heap.size) L := ⟨hL, fun a h => Or.inl h⟩
  have hA : ∀ q : Nat, s.heap.size ≤ q → dm L s.heap.size q := fun q h => Or.inr h
  have hS : va_S (dm L s.heap.size) s.heap s.heap [] := va_S.rf
  have hB : TS D cA L T r ry ([] : List (Nat × Nat)) σ σ ρ s.heap := ⟨hP, hW, FR.rf⟩
  have hl := lv_entry ([.ref (adK 0)]) (n := 1) (Nat.le_of_ble_eq_true rfl)
  rw [lg_entry_eq]
  generalize (lg_sl ([.ref (adK 0)]) ++ List.replicate (1 - (lg_sl ([.ref (adK 0)])).length) Slot.unset).toArray = ls at hl ⊢
  have hl : lv_has ls 1 [(0, .ref (adK 0))] := hl
  refine lv_aload_n hx hb dJ0_length_8abf5_0 rfl (lv_at hl 0 rfl) ?_
  refine vk_getf hx hb (hV.1.1 0 (by decide)).2.2.1 hS hown (hts _ mw_8_143) (fun _ h => h) dJ0_length_8abf5_1 ?_
  refine va_tlen hx hb (hV.1.1 0 (by decide)).2.2.2 hS (v := 95) rfl dJ0_length_8abf5_4 ?_
  refine lv_aload_n hx hb dJ0_length_8abf5_5 rfl (lv_at hl 0 rfl) ?_
  refine t_ci (va_runV (As := []) (rest := [.int 95]) ⟨hx, hb, hml, hown, hts⟩ (cs_J0_coder_7d493_0 l D cA L T r hG hLA.1 σ ρ hB.2.1 _ adK adV ) (cV hts mv_J0_coder_7d493 mw_3_55 rfl rfl ⟨Nat.le_of_ble_eq_true rfl, Nat.le_of_ble_eq_true rfl⟩) (pK hB.1 hK hN (hV.to hS) (i := 0) (by decide)) rfl rfl hl.1 rfl (lv_room (Nat.le_of_ble_eq_true rfl)) dJ0_length_8abf5_6 ⟨Nat.le_of_ble_eq_true rfl, Nat.le_of_ble_eq_true rfl⟩) hLA hA hB hS (by decide) (fun x_3 σ_1 ρ_2 H locs hB fσ_1 pσ_1 hS => ?_)
  have qσ_1 := FR.nil fσ_1
  subst qσ_1
  subst pσ_1
  refine lv_ishr hx hb dJ0_length_8abf5_9 ?_
  refine tp_i (w := 95) (by decide) ?_
  exact W.iret (v := 95) hx hb hr (fun t ht hW => ⟨⟨95, (σ, ρ_2), rfl, ⟨hB.2.1, hB.2.2, rfl⟩, (show TP D cA L T r σ ρ_2 t.heap from by rw [ht]; exact hB.1)⟩, hS.F ht⟩) hS.2.2 dJ0_length_8abf5_10
set_option maxHeartbeats 4000000 in
set_option maxRecDepth 100000 in
theorem cs_J0_coder_7d493_1 (l : Launch) (D : va_G) (cA : Nat → ClassId) (L : List Nat) (T : Nat → Nat) (r : Rg) (hG : GR L T r) (hL : L.Nodup) (σ : Sg) (ρ : Lg) (hW : WT L ry T σ) (sz : Nat) (adK adV : Nat → Nat) : Met l yJ0_coder_7d493 (.code yJ0_coder_7d493 cJ0_coder_7d493 1 (some .byte) :: wsA) ({ frames := 0, cells := 0, slots := 0, locals := 0 }) (PZ adK adV D cA L T r σ ρ sz [.ref (adK 1)]) (QI D cA L T r ry ([] : List (Nat × Nat)) σ sz (fun x σ1 => x = 0)) 0 0 (dm L sz) := by
  refine Met.ofW (cc := cJ0_coder_7d493) (maxL := 1) (ret := (some .byte)) (by decide) rfl ?_
  intro p e s m args below meth c s₁ B hml hv
  obtain ⟨rfl, hsz, hP, hK, hN, hV⟩ := hv
  have hx := B.exec
  have hb := B.bytes
  have hr := B.returns
  have hts : ∀ w ∈ wsA, w.before _ s = true := fun w h => atoms_spec (ws := .code yJ0_coder_7d493 cJ0_coder_7d493 1 (some .byte) :: wsA) B.pre w (List.mem_cons_of_mem _ h)
  have hown : s.vm.findClass RJ0 = some m.cls := findClass_of_methodNamed B.named
  subst hsz
  have hLA : LA (dm L s.heap.size) L := ⟨hL, fun a h => Or.inl h⟩
  have hA : ∀ q : Nat, s.heap.size ≤ q → dm L s.heap.size q := fun q h => Or.inr h
  have hS : va_S (dm L s.heap.size) s.heap s.heap [] := va_S.rf
  have hB : TS D cA L T r ry ([] : List (Nat × Nat)) σ σ ρ s.heap := ⟨hP, hW, FR.rf⟩
  have hl := lv_entry ([.ref (adK 1)]) (n := 1) (Nat.le_of_ble_eq_true rfl)
  rw [lg_entry_eq]
  generalize (lg_sl ([.ref (adK 1)]) ++ List.replicate (1 - (lg_sl ([.ref (adK 1)])).length) Slot.unset).toArray = ls at hl ⊢
  have hl : lv_has ls 1 [(0, .ref (adK 1))] := hl
  refine va_gets hx hb hV.2.1 hS hown (hts _ mw_3_59) (fun _ h => h) dJ0_coder_7d493_0 ?_
  refine lv_if_eq (tgt := 13) hx hb dJ0_coder_7d493_3 (by decide) (fun c9 => absurd c9 (by decide)) (fun _ => ?_)
  refine lv_aload_n hx hb dJ0_coder_7d493_6 rfl (lv_at hl 0 rfl) ?_
  refine vk_getf hx hb (hV.1.1 1 (by decide)).2.1 hS hown (hts _ mw_8_144) (fun _ h => h) dJ0_coder_7d493_7 ?_
  refine lv_goto (tgt := 14) hx hb dJ0_coder_7d493_10 (by decide) ?_
  exact W.zret (v := 0) hx hb hr rfl (fun t ht hW => ⟨⟨0, (σ, ρ), rfl, ⟨hB.2.1, hB.2.2, rfl⟩, (show TP D cA L T r σ ρ t.heap from by rw [ht]; exact hB.1)⟩, hS.F ht⟩) hS.2.2 dJ0_coder_7d493_14
set_option maxHeartbeats 4000000 in
set_option maxRecDepth 100000 in
theorem cs_J0_isLatin1_aae02_1 (l : Launch) (D : va_G) (cA : Nat → ClassId) (L : List Nat) (T : Nat → Nat) (r : Rg) (hG : GR L T r) (hL : L.Nodup) (σ : Sg) (ρ : Lg) (hW : WT L ry T σ) (sz : Nat) (adK adV : Nat → Nat) : Met l yJ0_isLatin1_aae02 (.code yJ0_isLatin1_aae02 cJ0_isLatin1_aae02 1 (some .boolean) :: wsA) ({ frames := 0, cells := 0, slots := 0, locals := 0 }) (PZ adK adV D cA L T r σ ρ sz [.ref (adK 1)]) (QI D cA L T r ry ([] : List (Nat × Nat)) σ sz (fun x σ1 => x = 1)) 0 0 (dm L sz) := by
  refine Met.ofW (cc := cJ0_isLatin1_aae02) (maxL := 1) (ret := (some .boolean)) (by decide) rfl ?_
  intro p e s m args below meth c s₁ B hml hv
  obtain ⟨rfl, hsz, hP, hK, hN, hV⟩ := hv
  have hx := B.exec
  have hb := B.bytes
  have hr := B.returns
  have hts : ∀ w ∈ wsA, w.before _ s = true := fun w h => atoms_spec (ws := .code yJ0_isLatin1_aae02 cJ0_isLatin1_aae02 1 (some .boolean) :: wsA) B.pre w (List.mem_cons_of_mem _ h)
  have hown : s.vm.findClass RJ0 = some m.cls := findClass_of_methodNamed B.named
  subst hsz
  have hLA : LA (dm L s.heap.size) L := ⟨hL, fun a h => Or.inl h⟩
  have hA : ∀ q : Nat, s.heap.size ≤ q → dm L s.heap.size q := fun q h => Or.inr h
  have hS : va_S (dm L s.heap.size) s.heap s.heap [] := va_S.rf
  have hB : TS D cA L T r ry ([] : List (Nat × Nat)) σ σ ρ s.heap := ⟨hP, hW, FR.rf⟩
  have hl := lv_entry ([.ref (adK 1)]) (n := 1) (Nat.le_of_ble_eq_true rfl)
  rw [lg_entry_eq]
  generalize (lg_sl ([.ref (adK 1)]) ++ List.replicate (1 - (lg_sl ([.ref (adK 1)])).length) Slot.unset).toArray = ls at hl ⊢
  have hl : lv_has ls 1 [(0, .ref (adK 1))] := hl
  refine va_gets hx hb hV.2.1 hS hown (hts _ mw_3_59) (fun _ h => h) dJ0_isLatin1_aae02_0 ?_
  refine lv_if_eq (tgt := 17) hx hb dJ0_isLatin1_aae02_3 (by decide) (fun c9 => absurd c9 (by decide)) (fun _ => ?_)
  refine lv_aload_n hx hb dJ0_isLatin1_aae02_6 rfl (lv_at hl 0 rfl) ?_
  refine vk_getf hx hb (hV.1.1 1 (by decide)).2.1 hS hown (hts _ mw_8_144) (fun _ h => h) dJ0_isLatin1_aae02_7 ?_
  refine lv_if_ne (tgt := 17) hx hb dJ0_isLatin1_aae02_10 (by decide) (fun c9 => absurd (by decide) c9) (fun _ => ?_)
  refine lv_iconst (v := 1) hx hb dJ0_isLatin1_aae02_13 (by decide) ?_
  refine lv_goto (tgt := 18) hx hb dJ0_isLatin1_aae02_14 (by decide) ?_
  exact W.zret (v := 1) hx hb hr rfl (fun t ht hW => ⟨⟨1, (σ, ρ), rfl, ⟨hB.2.1, hB.2.2, rfl⟩, (show TP D cA L T r σ ρ t.heap from by rw [ht]; exact hB.1)⟩, hS.F ht⟩) hS.2.2 dJ0_isLatin1_aae02_18
set_option maxHeartbeats 4000000 in
set_option maxRecDepth 100000 in
theorem cs_J0_length_8abf5_1 (l : Launch) (D : va_G) (cA : Nat → ClassId) (L : List Nat) (T : Nat → Nat) (r : Rg) (hG : GR L T r) (hL : L.Nodup) (σ : Sg) (ρ : Lg) (hW : WT L ry T σ) (sz : Nat) (adK adV : Nat → Nat) : Met l yJ0_length_8abf5 (.code yJ0_length_8abf5 cJ0_length_8abf5 1 (some .int) :: wsA) ({ frames := 1, cells := 0, slots := 0, locals := 20 }) (PZ adK adV D cA L T r σ ρ sz [.ref (adK 1)]) (QI D cA L T r ry ([] : List (Nat × Nat)) σ sz (fun x σ1 => x = 11)) 0 0 (dm L sz) := by
  refine Met.ofW (cc := cJ0_length_8abf5) (maxL := 1) (ret := (some .int)) (by decide) rfl ?_
  intro p e s m args below meth c s₁ B hml hv
  obtain ⟨rfl, hsz, hP, hK, hN, hV⟩ := hv
  have hx := B.exec
  have hb := B.bytes
  have hr := B.returns
  have hts : ∀ w ∈ wsA, w.before _ s = true := fun w h => atoms_spec (ws := .code yJ0_length_8abf5 cJ0_length_8abf5 1 (some .int) :: wsA) B.pre w (List.mem_cons_of_mem _ h)
  have hown : s.vm.findClass RJ0 = some m.cls := findClass_of_methodNamed B.named
  subst hsz
  have hLA : LA (dm L s.heap.size) L := ⟨hL, fun a h => Or.inl h⟩
  have hA : ∀ q : Nat, s.heap.size ≤ q → dm L s.heap.size q := fun q h => Or.inr h
  have hS : va_S (dm L s.heap.size) s.heap s.heap [] := va_S.rf
  have hB : TS D cA L T r ry ([] : List (Nat × Nat)) σ σ ρ s.heap := ⟨hP, hW, FR.rf⟩
  have hl := lv_entry ([.ref (adK 1)]) (n := 1) (Nat.le_of_ble_eq_true rfl)
  rw [lg_entry_eq]
  generalize (lg_sl ([.ref (adK 1)]) ++ List.replicate (1 - (lg_sl ([.ref (adK 1)])).length) Slot.unset).toArray = ls at hl ⊢
  have hl : lv_has ls 1 [(0, .ref (adK 1))] := hl
  refine lv_aload_n hx hb dJ0_length_8abf5_0 rfl (lv_at hl 0 rfl) ?_
  refine vk_getf hx hb (hV.1.1 1 (by decide)).2.2.1 hS hown (hts _ mw_8_143) (fun _ h => h) dJ0_length_8abf5_1 ?_
  refine va_tlen hx hb (hV.1.1 1 (by decide)).2.2.2 hS (v := 11) rfl dJ0_length_8abf5_4 ?_
  refine lv_aload_n hx hb dJ0_length_8abf5_5 rfl (lv_at hl 0 rfl) ?_
  refine t_ci (va_runV (As := []) (rest := [.int 11]) ⟨hx, hb, hml, hown, hts⟩ (cs_J0_coder_7d493_1 l D cA L T r hG hLA.1 σ ρ hB.2.1 _ adK adV ) (cV hts mv_J0_coder_7d493 mw_3_55 rfl rfl ⟨Nat.le_of_ble_eq_true rfl, Nat.le_of_ble_eq_true rfl⟩) (pK hB.1 hK hN (hV.to hS) (i := 1) (by decide)) rfl rfl hl.1 rfl (lv_room (Nat.le_of_ble_eq_true rfl)) dJ0_length_8abf5_6 ⟨Nat.le_of_ble_eq_true rfl, Nat.le_of_ble_eq_true rfl⟩) hLA hA hB hS (by decide) (fun x_3 σ_1 ρ_2 H locs hB fσ_1 pσ_1 hS => ?_)
  have qσ_1 := FR.nil fσ_1
  subst qσ_1
  subst pσ_1
  refine lv_ishr hx hb dJ0_length_8abf5_9 ?_
  refine tp_i (w := 11) (by decide) ?_
  exact W.iret (v := 11) hx hb hr (fun t ht hW => ⟨⟨11, (σ, ρ_2), rfl, ⟨hB.2.1, hB.2.2, rfl⟩, (show TP D cA L T r σ ρ_2 t.heap from by rw [ht]; exact hB.1)⟩, hS.F ht⟩) hS.2.2 dJ0_length_8abf5_10
theorem dJ3_checkIndex_8e157_0 : decode cJ3_checkIndex_8e157 0 = .ok (.iload_n 0, 1) := by decide +kernel
theorem dJ3_checkIndex_8e157_1 : decode cJ3_checkIndex_8e157 1 = .ok (.ifCond .lt 8, 3) := by decide +kernel
theorem dJ3_checkIndex_8e157_4 : decode cJ3_checkIndex_8e157 4 = .ok (.iload_n 0, 1) := by decide +kernel
theorem dJ3_checkIndex_8e157_5 : decode cJ3_checkIndex_8e157 5 = .ok (.iload_n 1, 1) := by decide +kernel
theorem dJ3_checkIndex_8e157_6 : decode cJ3_checkIndex_8e157 6 = .ok (.if_icmp .lt 10, 3) := by decide +kernel
theorem dJ3_checkIndex_8e157_16 : decode cJ3_checkIndex_8e157 16 = .ok (.iload_n 0, 1) := by decide +kernel
theorem dJ3_checkIndex_8e157_17 : decode cJ3_checkIndex_8e157 17 = .ok (.ireturn, 1) := by decide +kernel
set_option maxHeartbeats 4000000 in
set_option maxRecDepth 100000 in
theorem cs_J3_checkIndex_n (l : Launch) (D : va_G) (cA : Nat → ClassId) (L : List Nat) (T : Nat → Nat) (r : Rg) (hG : GR L T r) (hL : L.Nodup) (σ : Sg) (ρ : Lg) (hW : WT L ry T σ) (sz : Nat) (p1 : Int32) (w0 : 0 ≤ p1.toInt) (w1 : p1.toInt ≤ 94) : Met l yJ3_checkIndex_8e157 (.code yJ3_checkIndex_8e157 cJ3_checkIndex_8e157 3 (some .int) :: wsA) ({ frames := 0, cells := 0, slots := 0, locals := 0 }) (PR D cA L T r σ ρ sz [.int p1, .int 95, .null]) (QI D cA L T r ry ([] : List (Nat × Nat)) σ sz (fun x σ1 => True)) 0 0 (dm L sz) := by
  refine Met.ofW (cc := cJ3_checkIndex_8e157) (maxL := 3) (ret := (some .int)) (by decide) rfl ?_
  intro p e s m args below meth c s₁ B hml hv
  obtain ⟨rfl, hsz, hP, hK, hN⟩ := hv
  have hx := B.exec
  have hb := B.bytes
  have hr := B.returns
  have hts : ∀ w ∈ wsA, w.before _ s = true := fun w h => atoms_spec (ws := .code yJ3_checkIndex_8e157 cJ3_checkIndex_8e157 3 (some .int) :: wsA) B.pre w (List.mem_cons_of_mem _ h)
  have hown : s.vm.findClass RJ3 = some m.cls := findClass_of_methodNamed B.named
  subst hsz
  have hLA : LA (dm L s.heap.size) L := ⟨hL, fun a h => Or.inl h⟩
  have hA : ∀ q : Nat, s.heap.size ≤ q → dm L s.heap.size q := fun q h => Or.inr h
  have hS : va_S (dm L s.heap.size) s.heap s.heap [] := va_S.rf
  have hB : TS D cA L T r ry ([] : List (Nat × Nat)) σ σ ρ s.heap := ⟨hP, hW, FR.rf⟩
  have hl := lv_entry ([.int p1, .int 95, .null]) (n := 3) (Nat.le_of_ble_eq_true rfl)
  rw [lg_entry_eq]
  generalize (lg_sl ([.int p1, .int 95, .null]) ++ List.replicate (3 - (lg_sl ([.int p1, .int 95, .null])).length) Slot.unset).toArray = ls at hl ⊢
  have hl : lv_has ls 3 [(0, .int p1), (1, .int 95), (2, .null)] := hl
  refine lv_iload_n hx hb dJ3_checkIndex_8e157_0 rfl (lv_at hl 0 rfl) ?_
  refine lv_if_lt (tgt := 9) hx hb dJ3_checkIndex_8e157_1 (by decide) (fun c_1 => ?_) (fun c_1 => ?_)
  · skip
    have uc_1 := i_lt (n := 0) (by decide) c_1
    exfalso; omega
  · skip
    have uc_1 := i_nlt (n := 0) (by decide) c_1
    refine lv_iload_n hx hb dJ3_checkIndex_8e157_4 rfl (lv_at hl 0 rfl) ?_
    refine lv_iload_n hx hb dJ3_checkIndex_8e157_5 rfl (lv_at hl 1 rfl) ?_
    refine lv_icmp_lt (tgt := 16) hx hb dJ3_checkIndex_8e157_6 (by decide) (fun c_2 => ?_) (fun c_2 => ?_)
    · skip
      have uc_2 := i_lt (n := 95) (by decide) c_2
      refine lv_iload_n hx hb dJ3_checkIndex_8e157_16 rfl (lv_at hl 0 rfl) ?_
      exact W.iret (v := p1) hx hb hr (fun t ht hW => ⟨⟨p1, (σ, ρ), rfl, ⟨hB.2.1, hB.2.2, trivial⟩, (show TP D cA L T r σ ρ t.heap from by rw [ht]; exact hB.1)⟩, hS.F ht⟩) hS.2.2 dJ3_checkIndex_8e157_17
    · skip
      have uc_2 := i_nlt (n := 95) (by decide) c_2
      exfalso; omega
set_option maxHeartbeats 4000000 in
set_option maxRecDepth 100000 in
theorem cs_J3_checkIndex_r (l : Launch) (D : va_G) (cA : Nat → ClassId) (L : List Nat) (T : Nat → Nat) (r : Rg) (hG : GR L T r) (hL : L.Nodup) (σ : Sg) (ρ : Lg) (hW : WT L ry T σ) (sz : Nat) (p1 : Int32) (zf : Nat) (w0 : 0 ≤ p1.toInt) (w1 : p1.toInt ≤ 94) : Met l yJ3_checkIndex_8e157 (.code yJ3_checkIndex_8e157 cJ3_checkIndex_8e157 3 (some .int) :: wsA) ({ frames := 0, cells := 0, slots := 0, locals := 0 }) (PR D cA L T r σ ρ sz [.int p1, .int 95, .ref zf]) (QI D cA L T r ry ([] : List (Nat × Nat)) σ sz (fun x σ1 => True)) 0 0 (dm L sz) := by
  refine Met.ofW (cc := cJ3_checkIndex_8e157) (maxL := 3) (ret := (some .int)) (by decide) rfl ?_
  intro p e s m args below meth c s₁ B hml hv
  obtain ⟨rfl, hsz, hP, hK, hN⟩ := hv
  have hx := B.exec
  have hb := B.bytes
  have hr := B.returns
  have hts : ∀ w ∈ wsA, w.before _ s = true := fun w h => atoms_spec (ws := .code yJ3_checkIndex_8e157 cJ3_checkIndex_8e157 3 (some .int) :: wsA) B.pre w (List.mem_cons_of_mem _ h)
  have hown : s.vm.findClass RJ3 = some m.cls := findClass_of_methodNamed B.named
  subst hsz
  have hLA : LA (dm L s.heap.size) L := ⟨hL, fun a h => Or.inl h⟩
  have hA : ∀ q : Nat, s.heap.size ≤ q → dm L s.heap.size q := fun q h => Or.inr h
  have hS : va_S (dm L s.heap.size) s.heap s.heap [] := va_S.rf
  have hB : TS D cA L T r ry ([] : List (Nat × Nat)) σ σ ρ s.heap := ⟨hP, hW, FR.rf⟩
  have hl := lv_entry ([.int p1, .int 95, .ref zf]) (n := 3) (Nat.le_of_ble_eq_true rfl)
  rw [lg_entry_eq]
  generalize (lg_sl ([.int p1, .int 95, .ref zf]) ++ List.replicate (3 - (lg_sl ([.int p1, .int 95, .ref zf])).length) Slot.unset).toArray = ls at hl ⊢
  have hl : lv_has ls 3 [(0, .int p1), (1, .int 95), (2, .ref zf)] := hl
  refine lv_iload_n hx hb dJ3_checkIndex_8e157_0 rfl (lv_at hl 0 rfl) ?_
  refine lv_if_lt (tgt := 9) hx hb dJ3_checkIndex_8e157_1 (by decide) (fun c_1 => ?_) (fun c_1 => ?_)
  · skip
    have uc_1 := i_lt (n := 0) (by decide) c_1
    exfalso; omega
  · skip
    have uc_1 := i_nlt (n := 0) (by decide) c_1
    refine lv_iload_n hx hb dJ3_checkIndex_8e157_4 rfl (lv_at hl 0 rfl) ?_
    refine lv_iload_n hx hb dJ3_checkIndex_8e157_5 rfl (lv_at hl 1 rfl) ?_
    refine lv_icmp_lt (tgt := 16) hx hb dJ3_checkIndex_8e157_6 (by decide) (fun c_2 => ?_) (fun c_2 => ?_)
    · skip
      have uc_2 := i_lt (n := 95) (by decide) c_2
      refine lv_iload_n hx hb dJ3_checkIndex_8e157_16 rfl (lv_at hl 0 rfl) ?_
      exact W.iret (v := p1) hx hb hr (fun t ht hW => ⟨⟨p1, (σ, ρ), rfl, ⟨hB.2.1, hB.2.2, trivial⟩, (show TP D cA L T r σ ρ t.heap from by rw [ht]; exact hB.1)⟩, hS.F ht⟩) hS.2.2 dJ3_checkIndex_8e157_17
    · skip
      have uc_2 := i_nlt (n := 95) (by decide) c_2
      exfalso; omega
theorem mw_3_75 : (.fieldLink RJ0 1053 "jdk/internal/util/Preconditions" "SIOOBE_FORMATTER" "Ljava/util/function/BiFunction;" : Cond) ∈ wsA := wsA_t (List.mem_append_right _ (List.mem_append_right _ (List.mem_append_left _ (List.mem_of_getElem? (l := tables_1_3) (i := 75) rfl)))) rfl
theorem mw_3_78 : (.static yJ3_checkIndex_8e157 : Cond) ∈ wsA := wsA_t (List.mem_append_right _ (List.mem_append_right _ (List.mem_append_left _ (List.mem_of_getElem? (l := tables_1_3) (i := 78) rfl)))) rfl
theorem mw_1_16 : (.initialized RJ3 : Cond) ∈ wsA := wsA_t (List.mem_append_left _ (List.mem_of_getElem? (l := tables_1_1) (i := 16) rfl)) rfl
theorem mw_3_79 : (.code yJ3_checkIndex_8e157 cJ3_checkIndex_8e157 3 (some .int) : Cond) ∈ wsA := wsA_t (List.mem_append_right _ (List.mem_append_right _ (List.mem_append_left _ (List.mem_of_getElem? (l := tables_1_3) (i := 79) rfl)))) rfl
theorem mw_3_77 : (.methodLink RJ0 1059 yJ3_checkIndex_8e157 : Cond) ∈ wsA := wsA_t (List.mem_append_right _ (List.mem_append_right _ (List.mem_append_left _ (List.mem_of_getElem? (l := tables_1_3) (i := 77) rfl)))) rfl
theorem dJ0_checkIndex_df160_0 : decode cJ0_checkIndex_df160 0 = .ok (.iload_n 0, 1) := by decide +kernel
theorem dJ0_checkIndex_df160_1 : decode cJ0_checkIndex_df160 1 = .ok (.iload_n 1, 1) := by decide +kernel
theorem dJ0_checkIndex_df160_2 : decode cJ0_checkIndex_df160 2 = .ok (.getstatic 1053, 3) := by decide +kernel
theorem dJ0_checkIndex_df160_5 : decode cJ0_checkIndex_df160 5 = .ok (.invokestatic 1059, 3) := by decide +kernel
theorem dJ0_checkIndex_df160_8 : decode cJ0_checkIndex_df160 8 = .ok (.pop, 1) := by decide +kernel
theorem dJ0_checkIndex_df160_9 : decode cJ0_checkIndex_df160 9 = .ok (.return_, 1) := by decide +kernel
theorem mo_J3_checkIndex_8e157 : MZ yJ3_checkIndex_8e157 cJ3_checkIndex_8e157 3 (some .int) 3 := ⟨mw_3_78, mw_1_16, mw_3_79, by decide, by decide, by decide +kernel⟩
set_option maxHeartbeats 4000000 in
set_option maxRecDepth 100000 in
theorem cs_J0_checkIndex_df160_0 (l : Launch) (D : va_G) (cA : Nat → ClassId) (L : List Nat) (T : Nat → Nat) (r : Rg) (hG : GR L T r) (hL : L.Nodup) (σ : Sg) (ρ : Lg) (hW : WT L ry T σ) (sz : Nat) (adK adV : Nat → Nat) (p1 : Int32) (w0 : 0 ≤ p1.toInt) (w1 : p1.toInt ≤ 94) : Met l yJ0_checkIndex_df160 (.code yJ0_checkIndex_df160 cJ0_checkIndex_df160 2 none :: wsA) ({ frames := 1, cells := 0, slots := 0, locals := 22 }) (PZ adK adV D cA L T r σ ρ sz [.int p1, .int 95]) (QV D cA L T r ry ([] : List (Nat × Nat)) σ sz (fun σ1 => True)) 0 0 (dm L sz) := by
  refine Met.ofW (cc := cJ0_checkIndex_df160) (maxL := 2) (ret := none) (by decide) rfl ?_
  intro p e s m args below meth c s₁ B hml hv
  obtain ⟨rfl, hsz, hP, hK, hN, hV⟩ := hv
  have hx := B.exec
  have hb := B.bytes
  have hr := B.returns
  have hts : ∀ w ∈ wsA, w.before _ s = true := fun w h => atoms_spec (ws := .code yJ0_checkIndex_df160 cJ0_checkIndex_df160 2 none :: wsA) B.pre w (List.mem_cons_of_mem _ h)
  have hown : s.vm.findClass RJ0 = some m.cls := findClass_of_methodNamed B.named
  subst hsz
  have hLA : LA (dm L s.heap.size) L := ⟨hL, fun a h => Or.inl h⟩
  have hA : ∀ q : Nat, s.heap.size ≤ q → dm L s.heap.size q := fun q h => Or.inr h
  have hS : va_S (dm L s.heap.size) s.heap s.heap [] := va_S.rf
  have hB : TS D cA L T r ry ([] : List (Nat × Nat)) σ σ ρ s.heap := ⟨hP, hW, FR.rf⟩
  have hl := lv_entry ([.int p1, .int 95]) (n := 2) (Nat.le_of_ble_eq_true rfl)
  rw [lg_entry_eq]
  generalize (lg_sl ([.int p1, .int 95]) ++ List.replicate (2 - (lg_sl ([.int p1, .int 95])).length) Slot.unset).toArray = ls at hl ⊢
  have hl : lv_has ls 2 [(0, .int p1), (1, .int 95)] := hl
  refine lv_iload_n hx hb dJ0_checkIndex_df160_0 rfl (lv_at hl 0 rfl) ?_
  refine lv_iload_n hx hb dJ0_checkIndex_df160_1 rfl (lv_at hl 1 rfl) ?_
  rcases hV.2.2.1 with hz | ⟨zf, hz⟩
  · skip
    refine va_gets hx hb hz hS hown (hts _ mw_3_75) (fun _ h => h) dJ0_checkIndex_df160_2 ?_
    refine t_ci (va_runS (As := [.int p1, .int 95, .null]) (rest := []) ⟨hx, hb, hml, hown, hts⟩ (cs_J3_checkIndex_n l D cA L T r hG hLA.1 σ ρ hB.2.1 _ p1 (by first | omega | decide) (by first | omega | decide)) (cO hts mo_J3_checkIndex_8e157 mw_3_77 rfl rfl ⟨Nat.le_of_ble_eq_true rfl, Nat.le_of_ble_eq_true rfl⟩) (pS hB.1 hK hN) rfl rfl hl.1 rfl (lv_room (Nat.le_of_ble_eq_true rfl)) dJ0_checkIndex_df160_5 ⟨Nat.le_of_ble_eq_true rfl, Nat.le_of_ble_eq_true rfl⟩) hLA hA hB hS (by decide) (fun x_3 σ_1 ρ_2 H locs hB fσ_1 pσ_1 hS => ?_)
    have qσ_1 := FR.nil fσ_1
    subst qσ_1
    refine lv_pop hx hb dJ0_checkIndex_df160_8 rfl ?_
    exact W.vret hx hb hr (fun t ht hW => ⟨⟨(σ, ρ_2), rfl, ⟨hB.2.1, hB.2.2, trivial⟩, (show TP D cA L T r σ ρ_2 t.heap from by rw [ht]; exact hB.1)⟩, hS.F ht⟩) hS.2.2 dJ0_checkIndex_df160_9
  · skip
    refine va_gets hx hb hz hS hown (hts _ mw_3_75) (fun _ h => h) dJ0_checkIndex_df160_2 ?_
    refine t_ci (va_runS (As := [.int p1, .int 95, .ref zf]) (rest := []) ⟨hx, hb, hml, hown, hts⟩ (cs_J3_checkIndex_r l D cA L T r hG hLA.1 σ ρ hB.2.1 _ p1 zf (by first | omega | decide) (by first | omega | decide)) (cO hts mo_J3_checkIndex_8e157 mw_3_77 rfl rfl ⟨Nat.le_of_ble_eq_true rfl, Nat.le_of_ble_eq_true rfl⟩) (pS hB.1 hK hN) rfl rfl hl.1 rfl (lv_room (Nat.le_of_ble_eq_true rfl)) dJ0_checkIndex_df160_5 ⟨Nat.le_of_ble_eq_true rfl, Nat.le_of_ble_eq_true rfl⟩) hLA hA hB hS (by decide) (fun x_6 σ_4 ρ_5 H locs hB fσ_4 pσ_4 hS => ?_)
    have qσ_4 := FR.nil fσ_4
    subst qσ_4
    refine lv_pop hx hb dJ0_checkIndex_df160_8 rfl ?_
    exact W.vret hx hb hr (fun t ht hW => ⟨⟨(σ, ρ_5), rfl, ⟨hB.2.1, hB.2.2, trivial⟩, (show TP D cA L T r σ ρ_5 t.heap from by rw [ht]; exact hB.1)⟩, hS.F ht⟩) hS.2.2 dJ0_checkIndex_df160_9
theorem mw_3_73 : (.static yJ0_checkIndex_df160 : Cond) ∈ wsA := wsA_t (List.mem_append_right _ (List.mem_append_right _ (List.mem_append_left _ (List.mem_of_getElem? (l := tables_1_3) (i := 73) rfl)))) rfl
theorem mw_3_74 : (.code yJ0_checkIndex_df160 cJ0_checkIndex_df160 2 none : Cond) ∈ wsA := wsA_t (List.mem_append_right _ (List.mem_append_right _ (List.mem_append_left _ (List.mem_of_getElem? (l := tables_1_3) (i := 74) rfl)))) rfl
theorem mw_3_72 : (.methodLink RJ1 9 yJ0_checkIndex_df160 : Cond) ∈ wsA := wsA_t (List.mem_append_right _ (List.mem_append_right _ (List.mem_append_left _ (List.mem_of_getElem? (l := tables_1_3) (i := 72) rfl)))) rfl
theorem dJ1_charAt_3b067_0 : decode cJ1_charAt_3b067 0 = .ok (.iload_n 1, 1) := by decide +kernel
theorem dJ1_charAt_3b067_1 : decode cJ1_charAt_3b067 1 = .ok (.aload_n 0, 1) := by decide +kernel
theorem dJ1_charAt_3b067_2 : decode cJ1_charAt_3b067 2 = .ok (.arraylength, 1) := by decide +kernel
theorem dJ1_charAt_3b067_3 : decode cJ1_charAt_3b067 3 = .ok (.invokestatic 9, 3) := by decide +kernel
theorem dJ1_charAt_3b067_6 : decode cJ1_charAt_3b067 6 = .ok (.aload_n 0, 1) := by decide +kernel
theorem dJ1_charAt_3b067_7 : decode cJ1_charAt_3b067 7 = .ok (.iload_n 1, 1) := by decide +kernel
theorem dJ1_charAt_3b067_8 : decode cJ1_charAt_3b067 8 = .ok (.baload, 1) := by decide +kernel
theorem dJ1_charAt_3b067_9 : decode cJ1_charAt_3b067 9 = .ok (.sipush 255, 3) := by decide +kernel
theorem dJ1_charAt_3b067_12 : decode cJ1_charAt_3b067 12 = .ok (.iand, 1) := by decide +kernel
theorem dJ1_charAt_3b067_13 : decode cJ1_charAt_3b067 13 = .ok (.i2c, 1) := by decide +kernel
theorem dJ1_charAt_3b067_14 : decode cJ1_charAt_3b067 14 = .ok (.ireturn, 1) := by decide +kernel
theorem mo_J0_checkIndex_df160 : MZ yJ0_checkIndex_df160 cJ0_checkIndex_df160 2 none 2 := ⟨mw_3_73, mw_1_14, mw_3_74, by decide, by decide, by decide +kernel⟩
set_option maxHeartbeats 4000000 in
set_option maxRecDepth 100000 in
theorem cs_J1_charAt_3b067_0 (l : Launch) (D : va_G) (cA : Nat → ClassId) (L : List Nat) (T : Nat → Nat) (r : Rg) (hG : GR L T r) (hL : L.Nodup) (σ : Sg) (ρ : Lg) (hW : WT L ry T σ) (sz : Nat) (adK adV : Nat → Nat) (p1 : Int32) (w0 : 0 ≤ p1.toInt) (w1 : p1.toInt ≤ 94) : Met l yJ1_charAt_3b067 (.code yJ1_charAt_3b067 cJ1_charAt_3b067 2 (some .char) :: wsA) ({ frames := 2, cells := 0, slots := 0, locals := 43 }) (PZ adK adV D cA L T r σ ρ sz [.ref (adV 0), .int p1]) (QI D cA L T r ry ([] : List (Nat × Nat)) σ sz (fun x σ1 => (0 ≤ x.toInt ∧ x.toInt ≤ 65535))) 0 0 (dm L sz) := by
  refine Met.ofW (cc := cJ1_charAt_3b067) (maxL := 2) (ret := (some .char)) (by decide) rfl ?_
  intro p e s m args below meth c s₁ B hml hv
  obtain ⟨rfl, hsz, hP, hK, hN, hV⟩ := hv
  have hx := B.exec
  have hb := B.bytes
  have hr := B.returns
  have hts : ∀ w ∈ wsA, w.before _ s = true := fun w h => atoms_spec (ws := .code yJ1_charAt_3b067 cJ1_charAt_3b067 2 (some .char) :: wsA) B.pre w (List.mem_cons_of_mem _ h)
  have hown : s.vm.findClass RJ1 = some m.cls := findClass_of_methodNamed B.named
  subst hsz
  have hLA : LA (dm L s.heap.size) L := ⟨hL, fun a h => Or.inl h⟩
  have hA : ∀ q : Nat, s.heap.size ≤ q → dm L s.heap.size q := fun q h => Or.inr h
  have hS : va_S (dm L s.heap.size) s.heap s.heap [] := va_S.rf
  have hB : TS D cA L T r ry ([] : List (Nat × Nat)) σ σ ρ s.heap := ⟨hP, hW, FR.rf⟩
  have hl := lv_entry ([.ref (adV 0), .int p1]) (n := 2) (Nat.le_of_ble_eq_true rfl)
  rw [lg_entry_eq]
  generalize (lg_sl ([.ref (adV 0), .int p1]) ++ List.replicate (2 - (lg_sl ([.ref (adV 0), .int p1])).length) Slot.unset).toArray = ls at hl ⊢
  have hl : lv_has ls 2 [(0, .ref (adV 0)), (1, .int p1)] := hl
  refine lv_iload_n hx hb dJ1_charAt_3b067_0 rfl (lv_at hl 1 rfl) ?_
  refine lv_aload_n hx hb dJ1_charAt_3b067_1 rfl (lv_at hl 0 rfl) ?_
  refine va_tlen hx hb (hV.1.1 0 (by decide)).2.2.2 hS (v := 95) rfl dJ1_charAt_3b067_2 ?_
  refine t_cv (va_runS (As := [.int p1, .int 95]) (rest := []) ⟨hx, hb, hml, hown, hts⟩ (cs_J0_checkIndex_df160_0 l D cA L T r hG hLA.1 σ ρ hB.2.1 _ adK adV p1 (by first | omega | decide) (by first | omega | decide)) (cO hts mo_J0_checkIndex_df160 mw_3_72 rfl rfl ⟨Nat.le_of_ble_eq_true rfl, Nat.le_of_ble_eq_true rfl⟩) (pSz hB.1 hK hN (hV.to hS)) rfl rfl hl.1 rfl (lv_room (Nat.le_of_ble_eq_true rfl)) dJ1_charAt_3b067_3 ⟨Nat.le_of_ble_eq_true rfl, Nat.le_of_ble_eq_true rfl⟩) hLA hA hB hS (by decide) (fun σ_1 ρ_2 H locs hB fσ_1 pσ_1 hS => ?_)
  have qσ_1 := FR.nil fσ_1
  subst qσ_1
  refine lv_aload_n hx hb dJ1_charAt_3b067_6 rfl (lv_at hl 0 rfl) ?_
  refine lv_iload_n hx hb dJ1_charAt_3b067_7 rfl (lv_at hl 1 rfl) ?_
  refine va_tb hx hb (hV.1.1 0 (by decide)).2.2.2 hS (show vp_in _ 95 from (i_in (by omega) (by omega))) rfl dJ1_charAt_3b067_8 ?_
  refine lv_topi (fun x_4 ex_4 => ?_)
  refine lv_sipush (v := 255) hx hb dJ1_charAt_3b067_9 (by decide) ?_
  refine lv_iand hx hb dJ1_charAt_3b067_12 ?_
  refine lv_topi (fun x_5 ex_5 => ?_)
  obtain ⟨lx_5, ux_5⟩ := and_m 8 (n := 255) (by decide) (by decide) (by decide) ex_5
  refine lv_i2c hx hb dJ1_charAt_3b067_13 rfl ?_
  refine lv_topi (fun x_6 ex_6 => ?_)
  obtain ⟨lx_6, ux_6⟩ := c_rng ex_6
  exact W.zret (v := x_6) hx hb hr (n_char (by omega) (by omega)) (fun t ht hW => ⟨⟨x_6, (σ, ρ_2), rfl, ⟨hB.2.1, hB.2.2, (show 0 ≤ (x_6 : Int32).toInt ∧ (x_6 : Int32).toInt ≤ 65535 from ⟨by omega, by omega⟩)⟩, (show TP D cA L T r σ ρ_2 t.heap from by rw [ht]; exact hB.1)⟩, hS.F ht⟩) hS.2.2 dJ1_charAt_3b067_14
theorem mw_3_66 : (.instanceMethod yJ0_isLatin1_aae02 : Cond) ∈ wsA := wsA_t (List.mem_append_right _ (List.mem_append_right _ (List.mem_append_left _ (List.mem_of_getElem? (l := tables_1_3) (i := 66) rfl)))) rfl
theorem mw_3_67 : (.selects RJ0 yJ0_isLatin1_aae02 yJ0_isLatin1_aae02 : Cond) ∈ wsA := wsA_t (List.mem_append_right _ (List.mem_append_right _ (List.mem_append_left _ (List.mem_of_getElem? (l := tables_1_3) (i := 67) rfl)))) rfl
theorem mw_3_68 : (.code yJ0_isLatin1_aae02 cJ0_isLatin1_aae02 1 (some .boolean) : Cond) ∈ wsA := wsA_t (List.mem_append_right _ (List.mem_append_right _ (List.mem_append_left _ (List.mem_of_getElem? (l := tables_1_3) (i := 68) rfl)))) rfl
theorem mw_3_65 : (.methodLink RJ0 492 yJ0_isLatin1_aae02 : Cond) ∈ wsA := wsA_t (List.mem_append_right _ (List.mem_append_right _ (List.mem_append_left _ (List.mem_of_getElem? (l := tables_1_3) (i := 65) rfl)))) rfl
theorem mw_3_70 : (.static yJ1_charAt_3b067 : Cond) ∈ wsA := wsA_t (List.mem_append_right _ (List.mem_append_right _ (List.mem_append_left _ (List.mem_of_getElem? (l := tables_1_3) (i := 70) rfl)))) rfl
theorem mw_1_15 : (.initialized RJ1 : Cond) ∈ wsA := wsA_t (List.mem_append_left _ (List.mem_of_getElem? (l := tables_1_1) (i := 15) rfl)) rfl
theorem mw_3_71 : (.code yJ1_charAt_3b067 cJ1_charAt_3b067 2 (some .char) : Cond) ∈ wsA := wsA_t (List.mem_append_right _ (List.mem_append_right _ (List.mem_append_left _ (List.mem_of_getElem? (l := tables_1_3) (i := 71) rfl)))) rfl
theorem mw_3_69 : (.methodLink RJ0 495 yJ1_charAt_3b067 : Cond) ∈ wsA := wsA_t (List.mem_append_right _ (List.mem_append_right _ (List.mem_append_left _ (List.mem_of_getElem? (l := tables_1_3) (i := 69) rfl)))) rfl
theorem dJ0_charAt_5068e_0 : decode cJ0_charAt_5068e 0 = .ok (.aload_n 0, 1) := by decide +kernel
theorem dJ0_charAt_5068e_1 : decode cJ0_charAt_5068e 1 = .ok (.invokevirtual 492, 3) := by decide +kernel
theorem dJ0_charAt_5068e_4 : decode cJ0_charAt_5068e 4 = .ok (.ifCond .eq 12, 3) := by decide +kernel
theorem dJ0_charAt_5068e_7 : decode cJ0_charAt_5068e 7 = .ok (.aload_n 0, 1) := by decide +kernel
theorem dJ0_charAt_5068e_8 : decode cJ0_charAt_5068e 8 = .ok (.getfield 9, 3) := by decide +kernel
theorem dJ0_charAt_5068e_11 : decode cJ0_charAt_5068e 11 = .ok (.iload_n 1, 1) := by decide +kernel
theorem dJ0_charAt_5068e_12 : decode cJ0_charAt_5068e 12 = .ok (.invokestatic 495, 3) := by decide +kernel
theorem dJ0_charAt_5068e_15 : decode cJ0_charAt_5068e 15 = .ok (.ireturn, 1) := by decide +kernel
theorem mv_J0_isLatin1_aae02 : MV RJ0 yJ0_isLatin1_aae02 cJ0_isLatin1_aae02 1 (some .boolean) 0 := ⟨mw_3_66, mw_3_67, mw_1_14, mw_3_68, ⟨rfl, by decide, by decide, by decide +kernel⟩⟩
theorem mo_J1_charAt_3b067 : MZ yJ1_charAt_3b067 cJ1_charAt_3b067 2 (some .char) 2 := ⟨mw_3_70, mw_1_15, mw_3_71, by decide, by decide, by decide +kernel⟩
set_option maxHeartbeats 4000000 in
set_option maxRecDepth 100000 in
theorem cs_J0_charAt_5068e_0 (l : Launch) (D : va_G) (cA : Nat → ClassId) (L : List Nat) (T : Nat → Nat) (r : Rg) (hG : GR L T r) (hL : L.Nodup) (σ : Sg) (ρ : Lg) (hW : WT L ry T σ) (sz : Nat) (adK adV : Nat → Nat) (p1 : Int32) (w0 : 0 ≤ p1.toInt) (w1 : p1.toInt ≤ 94) : Met l yJ0_charAt_5068e (.code yJ0_charAt_5068e cJ0_charAt_5068e 2 (some .char) :: wsA) ({ frames := 3, cells := 0, slots := 0, locals := 64 }) (PZ adK adV D cA L T r σ ρ sz [.ref (adK 0), .int p1]) (QI D cA L T r ry ([] : List (Nat × Nat)) σ sz (fun x σ1 => (0 ≤ x.toInt ∧ x.toInt ≤ 65535))) 0 0 (dm L sz) := by
  refine Met.ofW (cc := cJ0_charAt_5068e) (maxL := 2) (ret := (some .char)) (by decide) rfl ?_
  intro p e s m args below meth c s₁ B hml hv
  obtain ⟨rfl, hsz, hP, hK, hN, hV⟩ := hv
  have hx := B.exec
  have hb := B.bytes
  have hr := B.returns
  have hts : ∀ w ∈ wsA, w.before _ s = true := fun w h => atoms_spec (ws := .code yJ0_charAt_5068e cJ0_charAt_5068e 2 (some .char) :: wsA) B.pre w (List.mem_cons_of_mem _ h)
  have hown : s.vm.findClass RJ0 = some m.cls := findClass_of_methodNamed B.named
  subst hsz
  have hLA : LA (dm L s.heap.size) L := ⟨hL, fun a h => Or.inl h⟩
  have hA : ∀ q : Nat, s.heap.size ≤ q → dm L s.heap.size q := fun q h => Or.inr h
  have hS : va_S (dm L s.heap.size) s.heap s.heap [] := va_S.rf
  have hB : TS D cA L T r ry ([] : List (Nat × Nat)) σ σ ρ s.heap := ⟨hP, hW, FR.rf⟩
  have hl := lv_entry ([.ref (adK 0), .int p1]) (n := 2) (Nat.le_of_ble_eq_true rfl)
  rw [lg_entry_eq]
  generalize (lg_sl ([.ref (adK 0), .int p1]) ++ List.replicate (2 - (lg_sl ([.ref (adK 0), .int p1])).length) Slot.unset).toArray = ls at hl ⊢
  have hl : lv_has ls 2 [(0, .ref (adK 0)), (1, .int p1)] := hl
  refine lv_aload_n hx hb dJ0_charAt_5068e_0 rfl (lv_at hl 0 rfl) ?_
  refine t_ci (va_runV (As := []) (rest := []) ⟨hx, hb, hml, hown, hts⟩ (cs_J0_isLatin1_aae02_0 l D cA L T r hG hLA.1 σ ρ hB.2.1 _ adK adV ) (cV hts mv_J0_isLatin1_aae02 mw_3_65 rfl rfl ⟨Nat.le_of_ble_eq_true rfl, Nat.le_of_ble_eq_true rfl⟩) (pK hB.1 hK hN (hV.to hS) (i := 0) (by decide)) rfl rfl hl.1 rfl (lv_room (Nat.le_of_ble_eq_true rfl)) dJ0_charAt_5068e_1 ⟨Nat.le_of_ble_eq_true rfl, Nat.le_of_ble_eq_true rfl⟩) hLA hA hB hS (by decide) (fun x_3 σ_1 ρ_2 H locs hB fσ_1 pσ_1 hS => ?_)
  have qσ_1 := FR.nil fσ_1
  subst qσ_1
  subst pσ_1
  refine lv_if_eq (tgt := 16) hx hb dJ0_charAt_5068e_4 (by decide) (fun c9 => absurd c9 (by decide)) (fun _ => ?_)
  refine lv_aload_n hx hb dJ0_charAt_5068e_7 rfl (lv_at hl 0 rfl) ?_
  refine vk_getf hx hb (hV.1.1 0 (by decide)).2.2.1 hS hown (hts _ mw_8_143) (fun _ h => h) dJ0_charAt_5068e_8 ?_
  refine lv_iload_n hx hb dJ0_charAt_5068e_11 rfl (lv_at hl 1 rfl) ?_
  refine t_ci (va_runS (As := [.ref (adV 0), .int p1]) (rest := []) ⟨hx, hb, hml, hown, hts⟩ (cs_J1_charAt_3b067_0 l D cA L T r hG hLA.1 σ ρ_2 hB.2.1 _ adK adV p1 (by first | omega | decide) (by first | omega | decide)) (cO hts mo_J1_charAt_3b067 mw_3_69 rfl rfl ⟨Nat.le_of_ble_eq_true rfl, Nat.le_of_ble_eq_true rfl⟩) (pSz hB.1 hK hN (hV.to hS)) rfl rfl hl.1 rfl (lv_room (Nat.le_of_ble_eq_true rfl)) dJ0_charAt_5068e_12 ⟨Nat.le_of_ble_eq_true rfl, Nat.le_of_ble_eq_true rfl⟩) hLA hA hB hS (by decide) (fun x_6 σ_4 ρ_5 H locs hB fσ_4 pσ_4 hS => ?_)
  have qσ_4 := FR.nil fσ_4
  subst qσ_4
  obtain ⟨lx_6, ux_6⟩ := pσ_4
  exact W.zret (v := x_6) hx hb hr (n_char (by omega) (by omega)) (fun t ht hW => ⟨⟨x_6, (σ, ρ_5), rfl, ⟨hB.2.1, hB.2.2, (show 0 ≤ (x_6 : Int32).toInt ∧ (x_6 : Int32).toInt ≤ 65535 from ⟨by omega, by omega⟩)⟩, (show TP D cA L T r σ ρ_5 t.heap from by rw [ht]; exact hB.1)⟩, hS.F ht⟩) hS.2.2 dJ0_charAt_5068e_15
theorem dJ1_canEncode_9a6ad_0 : decode cJ1_canEncode_9a6ad 0 = .ok (.iload_n 0, 1) := by decide +kernel
theorem dJ1_canEncode_9a6ad_1 : decode cJ1_canEncode_9a6ad 1 = .ok (.ifCond .lt 14, 3) := by decide +kernel
theorem dJ1_canEncode_9a6ad_15 : decode cJ1_canEncode_9a6ad 15 = .ok (.iconst 0, 1) := by decide +kernel
theorem dJ1_canEncode_9a6ad_16 : decode cJ1_canEncode_9a6ad 16 = .ok (.ireturn, 1) := by decide +kernel
theorem dJ1_canEncode_9a6ad_4 : decode cJ1_canEncode_9a6ad 4 = .ok (.iload_n 0, 1) := by decide +kernel
theorem dJ1_canEncode_9a6ad_5 : decode cJ1_canEncode_9a6ad 5 = .ok (.sipush 255, 3) := by decide +kernel
theorem dJ1_canEncode_9a6ad_8 : decode cJ1_canEncode_9a6ad 8 = .ok (.if_icmp .gt 7, 3) := by decide +kernel
theorem dJ1_canEncode_9a6ad_11 : decode cJ1_canEncode_9a6ad 11 = .ok (.iconst 1, 1) := by decide +kernel
theorem dJ1_canEncode_9a6ad_12 : decode cJ1_canEncode_9a6ad 12 = .ok (.goto 4, 3) := by decide +kernel
set_option maxHeartbeats 4000000 in
set_option maxRecDepth 100000 in
theorem cy_J1_canEncode_9a6ad (l : Launch) (D : va_G) (cA : Nat → ClassId) (L : List Nat) (T : Nat → Nat) (r : Rg) (hG : GR L T r) (hL : L.Nodup) (σ : Sg) (ρ : Lg) (hW : WT L ry T σ) (sz : Nat) (p1 : Int32) : Met l yJ1_canEncode_9a6ad (.code yJ1_canEncode_9a6ad cJ1_canEncode_9a6ad 1 (some .boolean) :: wsA) ({ frames := 0, cells := 0, slots := 0, locals := 0 }) (PR D cA L T r σ ρ sz [.int p1]) (QI D cA L T r ry ([] : List (Nat × Nat)) σ sz (fun x σ1 => (0 ≤ x.toInt ∧ x.toInt ≤ 1))) 0 0 (dm L sz) := by
  refine Met.ofW (cc := cJ1_canEncode_9a6ad) (maxL := 1) (ret := (some .boolean)) (by decide) rfl ?_
  intro p e s m args below meth c s₁ B hml hv
  obtain ⟨rfl, hsz, hP, hK, hN⟩ := hv
  have hx := B.exec
  have hb := B.bytes
  have hr := B.returns
  have hts : ∀ w ∈ wsA, w.before _ s = true := fun w h => atoms_spec (ws := .code yJ1_canEncode_9a6ad cJ1_canEncode_9a6ad 1 (some .boolean) :: wsA) B.pre w (List.mem_cons_of_mem _ h)
  have hown : s.vm.findClass RJ1 = some m.cls := findClass_of_methodNamed B.named
  subst hsz
  have hLA : LA (dm L s.heap.size) L := ⟨hL, fun a h => Or.inl h⟩
  have hA : ∀ q : Nat, s.heap.size ≤ q → dm L s.heap.size q := fun q h => Or.inr h
  have hS : va_S (dm L s.heap.size) s.heap s.heap [] := va_S.rf
  have hB : TS D cA L T r ry ([] : List (Nat × Nat)) σ σ ρ s.heap := ⟨hP, hW, FR.rf⟩
  have hl := lv_entry ([.int p1]) (n := 1) (Nat.le_of_ble_eq_true rfl)
  rw [lg_entry_eq]
  generalize (lg_sl ([.int p1]) ++ List.replicate (1 - (lg_sl ([.int p1])).length) Slot.unset).toArray = ls at hl ⊢
  have hl : lv_has ls 1 [(0, .int p1)] := hl
  refine lv_iload_n hx hb dJ1_canEncode_9a6ad_0 rfl (lv_at hl 0 rfl) ?_
  refine lv_if_lt (tgt := 15) hx hb dJ1_canEncode_9a6ad_1 (by decide) (fun c_1 => ?_) (fun c_1 => ?_)
  · skip
    have uc_1 := i_lt (n := 0) (by decide) c_1
    refine lv_iconst (v := 0) hx hb dJ1_canEncode_9a6ad_15 (by decide) ?_
    exact W.zret (v := 0) hx hb hr rfl (fun t ht hW => ⟨⟨0, (σ, ρ), rfl, ⟨hB.2.1, hB.2.2, (show 0 ≤ (0 : Int32).toInt ∧ (0 : Int32).toInt ≤ 1 from ⟨by decide, by decide⟩)⟩, (show TP D cA L T r σ ρ t.heap from by rw [ht]; exact hB.1)⟩, hS.F ht⟩) hS.2.2 dJ1_canEncode_9a6ad_16
  · skip
    have uc_1 := i_nlt (n := 0) (by decide) c_1
    refine lv_iload_n hx hb dJ1_canEncode_9a6ad_4 rfl (lv_at hl 0 rfl) ?_
    refine lv_sipush (v := 255) hx hb dJ1_canEncode_9a6ad_5 (by decide) ?_
    refine lv_icmp_gt (tgt := 15) hx hb dJ1_canEncode_9a6ad_8 (by decide) (fun c_2 => ?_) (fun c_2 => ?_)
    · skip
      have uc_2 := i_gt (n := 255) (by decide) c_2
      refine lv_iconst (v := 0) hx hb dJ1_canEncode_9a6ad_15 (by decide) ?_
      exact W.zret (v := 0) hx hb hr rfl (fun t ht hW => ⟨⟨0, (σ, ρ), rfl, ⟨hB.2.1, hB.2.2, (show 0 ≤ (0 : Int32).toInt ∧ (0 : Int32).toInt ≤ 1 from ⟨by decide, by decide⟩)⟩, (show TP D cA L T r σ ρ t.heap from by rw [ht]; exact hB.1)⟩, hS.F ht⟩) hS.2.2 dJ1_canEncode_9a6ad_16
    · skip
      have uc_2 := i_ngt (n := 255) (by decide) c_2
      refine lv_iconst (v := 1) hx hb dJ1_canEncode_9a6ad_11 (by decide) ?_
      refine lv_goto (tgt := 16) hx hb dJ1_canEncode_9a6ad_12 (by decide) ?_
      exact W.zret (v := 1) hx hb hr rfl (fun t ht hW => ⟨⟨1, (σ, ρ), rfl, ⟨hB.2.1, hB.2.2, (show 0 ≤ (1 : Int32).toInt ∧ (1 : Int32).toInt ≤ 1 from ⟨by decide, by decide⟩)⟩, (show TP D cA L T r σ ρ t.heap from by rw [ht]; exact hB.1)⟩, hS.F ht⟩) hS.2.2 dJ1_canEncode_9a6ad_16
theorem dJ1_indexOfChar_4cfef_0 : decode cJ1_indexOfChar_4cfef 0 = .ok (.iload_n 1, 1) := by decide +kernel
theorem dJ1_indexOfChar_4cfef_1 : decode cJ1_indexOfChar_4cfef 1 = .ok (.i2b, 1) := by decide +kernel
theorem dJ1_indexOfChar_4cfef_2 : decode cJ1_indexOfChar_4cfef 2 = .ok (.istore 4, 2) := by decide +kernel
theorem dJ1_indexOfChar_4cfef_4 : decode cJ1_indexOfChar_4cfef 4 = .ok (.iload_n 2, 1) := by decide +kernel
theorem dJ1_indexOfChar_4cfef_5 : decode cJ1_indexOfChar_4cfef 5 = .ok (.istore 5, 2) := by decide +kernel
theorem dJ1_indexOfChar_4cfef_7 : decode cJ1_indexOfChar_4cfef 7 = .ok (.iload 5, 2) := by decide +kernel
theorem dJ1_indexOfChar_4cfef_9 : decode cJ1_indexOfChar_4cfef 9 = .ok (.iload_n 3, 1) := by decide +kernel
theorem dJ1_indexOfChar_4cfef_10 : decode cJ1_indexOfChar_4cfef 10 = .ok (.if_icmp .ge 21, 3) := by decide +kernel
theorem dJ1_indexOfChar_4cfef_13 : decode cJ1_indexOfChar_4cfef 13 = .ok (.aload_n 0, 1) := by decide +kernel
theorem dJ1_indexOfChar_4cfef_14 : decode cJ1_indexOfChar_4cfef 14 = .ok (.iload 5, 2) := by decide +kernel
theorem dJ1_indexOfChar_4cfef_16 : decode cJ1_indexOfChar_4cfef 16 = .ok (.baload, 1) := by decide +kernel
theorem dJ1_indexOfChar_4cfef_17 : decode cJ1_indexOfChar_4cfef 17 = .ok (.iload 4, 2) := by decide +kernel
theorem dJ1_indexOfChar_4cfef_19 : decode cJ1_indexOfChar_4cfef 19 = .ok (.if_icmp .ne 6, 3) := by decide +kernel
theorem dJ1_indexOfChar_4cfef_25 : decode cJ1_indexOfChar_4cfef 25 = .ok (.iinc 5 1, 3) := by decide +kernel
theorem dJ1_indexOfChar_4cfef_28 : decode cJ1_indexOfChar_4cfef 28 = .ok (.goto (-21), 3) := by decide +kernel
theorem dJ1_indexOfChar_4cfef_22 : decode cJ1_indexOfChar_4cfef 22 = .ok (.iload 5, 2) := by decide +kernel
theorem dJ1_indexOfChar_4cfef_24 : decode cJ1_indexOfChar_4cfef 24 = .ok (.ireturn, 1) := by decide +kernel
theorem dJ1_indexOfChar_4cfef_31 : decode cJ1_indexOfChar_4cfef 31 = .ok (.iconst (-1), 1) := by decide +kernel
theorem dJ1_indexOfChar_4cfef_32 : decode cJ1_indexOfChar_4cfef 32 = .ok (.ireturn, 1) := by decide +kernel
set_option maxHeartbeats 4000000 in
set_option maxRecDepth 100000 in
theorem cs_J1_indexOfChar_4cfef_1 (l : Launch) (D : va_G) (cA : Nat → ClassId) (L : List Nat) (T : Nat → Nat) (r : Rg) (hG : GR L T r) (hL : L.Nodup) (σ : Sg) (ρ : Lg) (hW : WT L ry T σ) (sz : Nat) (adK adV : Nat → Nat) (p1 : Int32) (p2 : Int32) (p3 : Int32) (w0 : 0 ≤ p2.toInt) (w1 : p2.toInt ≤ 11) (w2 : 0 ≤ p3.toInt) (w3 : p3.toInt ≤ 11) : Met l yJ1_indexOfChar_4cfef (.code yJ1_indexOfChar_4cfef cJ1_indexOfChar_4cfef 6 (some .int) :: wsA) ({ frames := 0, cells := 0, slots := 0, locals := 0 }) (PZ adK adV D cA L T r σ ρ sz [.ref (adV 1), .int p1, .int p2, .int p3]) (QI D cA L T r ry ([] : List (Nat × Nat)) σ sz (fun x σ1 => True)) 0 0 (dm L sz) := by
  refine Met.ofW (cc := cJ1_indexOfChar_4cfef) (maxL := 6) (ret := (some .int)) (by decide) rfl ?_
  intro p e s m args below meth c s₁ B hml hv
  obtain ⟨rfl, hsz, hP, hK, hN, hV⟩ := hv
  have hx := B.exec
  have hb := B.bytes
  have hr := B.returns
  have hts : ∀ w ∈ wsA, w.before _ s = true := fun w h => atoms_spec (ws := .code yJ1_indexOfChar_4cfef cJ1_indexOfChar_4cfef 6 (some .int) :: wsA) B.pre w (List.mem_cons_of_mem _ h)
  have hown : s.vm.findClass RJ1 = some m.cls := findClass_of_methodNamed B.named
  subst hsz
  have hLA : LA (dm L s.heap.size) L := ⟨hL, fun a h => Or.inl h⟩
  have hA : ∀ q : Nat, s.heap.size ≤ q → dm L s.heap.size q := fun q h => Or.inr h
  have hS : va_S (dm L s.heap.size) s.heap s.heap [] := va_S.rf
  have hB : TS D cA L T r ry ([] : List (Nat × Nat)) σ σ ρ s.heap := ⟨hP, hW, FR.rf⟩
  have hl := lv_entry ([.ref (adV 1), .int p1, .int p2, .int p3]) (n := 6) (Nat.le_of_ble_eq_true rfl)
  rw [lg_entry_eq]
  generalize (lg_sl ([.ref (adV 1), .int p1, .int p2, .int p3]) ++ List.replicate (6 - (lg_sl ([.ref (adV 1), .int p1, .int p2, .int p3])).length) Slot.unset).toArray = ls at hl ⊢
  have hl : lv_has ls 6 [(0, .ref (adV 1)), (1, .int p1), (2, .int p2), (3, .int p3)] := hl
  refine lv_iload_n hx hb dJ1_indexOfChar_4cfef_0 rfl (lv_at hl 1 rfl) ?_
  refine lv_i2b hx hb dJ1_indexOfChar_4cfef_1 rfl ?_
  refine lv_topi (fun x_1 ex_1 => ?_)
  refine lv_istore (lv' := [(4, .int x_1), (0, .ref (adV 1)), (1, .int p1), (2, .int p2), (3, .int p3)]) hx hb dJ1_indexOfChar_4cfef_2 hl (by decide) rfl (fun ls hl => ?_)
  refine lv_iload_n hx hb dJ1_indexOfChar_4cfef_4 rfl (lv_at hl 3 rfl) ?_
  refine lv_istore (lv' := [(5, .int p2), (4, .int x_1), (0, .ref (adV 1)), (1, .int p1), (2, .int p2), (3, .int p3)]) hx hb dJ1_indexOfChar_4cfef_5 hl (by decide) rfl (fun ls hl => ?_)
  refine w_loop (α := Int32 × Sg × Lg) (fun (i_2, σ_3, ρ_4) H locs ls => 0 ≤ i_2.toInt ∧ i_2.toInt ≤ 11 ∧ TS D cA L T r ry ([] : List (Nat × Nat)) σ σ_3 ρ_4 H ∧ va_S (dm L s.heap.size) s.heap H locs ∧ lv_has ls 6 [(5, .int i_2), (4, .int x_1), (0, .ref (adV 1)), (1, .int p1), (2, .int p2), (3, .int p3)]) (fun (i_2, σ_3, ρ_4) => (11 - i_2.toInt).toNat) ?_ ⟨p2, σ, ρ⟩ ⟨(by omega), (by omega), hB, hS, lv_sub hl [0, 1, 2, 3, 4, 5] rfl⟩
  rintro ⟨i_2, σ_3, ρ_4⟩ H locs ls ⟨li_2, ui_2, hB, hS, hl⟩ ih_5
  refine lv_iload hx hb dJ1_indexOfChar_4cfef_7 (lv_at hl 0 rfl) ?_
  refine lv_iload_n hx hb dJ1_indexOfChar_4cfef_9 rfl (lv_at hl 5 rfl) ?_
  refine lv_icmp_ge (tgt := 31) hx hb dJ1_indexOfChar_4cfef_10 (by decide) (fun c_6 => ?_) (fun c_6 => ?_)
  · skip
    have uc_6 := j_le c_6
    refine lv_iconst (v := (-1)) hx hb dJ1_indexOfChar_4cfef_31 (by decide) ?_
    exact W.iret (v := (-1)) hx hb hr (fun t ht hW => ⟨⟨(-1), (σ_3, ρ_4), rfl, ⟨hB.2.1, hB.2.2, trivial⟩, (show TP D cA L T r σ_3 ρ_4 t.heap from by rw [ht]; exact hB.1)⟩, hS.F ht⟩) hS.2.2 dJ1_indexOfChar_4cfef_32
  · skip
    have uc_6 := j_nle c_6
    refine lv_aload_n hx hb dJ1_indexOfChar_4cfef_13 rfl (lv_at hl 2 rfl) ?_
    refine lv_iload hx hb dJ1_indexOfChar_4cfef_14 (lv_at hl 0 rfl) ?_
    refine va_tb hx hb (hV.1.1 1 (by decide)).2.2.2 hS (show vp_in _ 11 from (i_in (by omega) (by omega))) rfl dJ1_indexOfChar_4cfef_16 ?_
    refine lv_topi (fun x_7 ex_7 => ?_)
    refine lv_iload hx hb dJ1_indexOfChar_4cfef_17 (lv_at hl 1 rfl) ?_
    refine lv_icmp_ne (tgt := 25) hx hb dJ1_indexOfChar_4cfef_19 (by decide) (fun c_8 => ?_) (fun c_8 => ?_)
    · skip
      have uc_8 := j_ne c_8
      obtain ⟨x_9, ex_9⟩ : ∃ y : Int32, y = i_2 + 1 := ⟨_, rfl⟩
      have vx_9 := b_add (rfl : i_2.toInt = _) (by decide : (1 : Int32).toInt = 1) ex_9 (by omega) (by omega)
      refine lv_iinc (v := x_9) (lv' := [(5, .int x_9), (4, .int x_1), (0, .ref (adV 1)), (1, .int p1), (2, .int p2), (3, .int p3)]) hx hb dJ1_indexOfChar_4cfef_25 hl (k := 0) rfl (by rw [ex_9]; rfl) (by decide) rfl (fun ls hl => ?_)
      refine lv_goto (tgt := 7) hx hb dJ1_indexOfChar_4cfef_28 (by decide) ?_
      exact ih_5 ⟨x_9, σ_3, ρ_4⟩ _ _ _ ⟨(by omega), (by omega), hB, hS, lv_sub hl [0, 1, 2, 3, 4, 5] rfl⟩ (by show (11 - x_9.toInt).toNat < (11 - i_2.toInt).toNat; omega)
    · skip
      have uc_8 := j_eq c_8
      refine lv_iload hx hb dJ1_indexOfChar_4cfef_22 (lv_at hl 0 rfl) ?_
      exact W.iret (v := i_2) hx hb hr (fun t ht hW => ⟨⟨i_2, (σ_3, ρ_4), rfl, ⟨hB.2.1, hB.2.2, trivial⟩, (show TP D cA L T r σ_3 ρ_4 t.heap from by rw [ht]; exact hB.1)⟩, hS.F ht⟩) hS.2.2 dJ1_indexOfChar_4cfef_24
theorem mw_3_117 : (.static yJ1_canEncode_9a6ad : Cond) ∈ wsA := wsA_t (List.mem_append_right _ (List.mem_append_right _ (List.mem_append_left _ (List.mem_of_getElem? (l := tables_1_3) (i := 117) rfl)))) rfl
theorem mw_3_118 : (.code yJ1_canEncode_9a6ad cJ1_canEncode_9a6ad 1 (some .boolean) : Cond) ∈ wsA := wsA_t (List.mem_append_right _ (List.mem_append_right _ (List.mem_append_left _ (List.mem_of_getElem? (l := tables_1_3) (i := 118) rfl)))) rfl
theorem mw_3_116 : (.methodLink RJ1 88 yJ1_canEncode_9a6ad : Cond) ∈ wsA := wsA_t (List.mem_append_right _ (List.mem_append_right _ (List.mem_append_left _ (List.mem_of_getElem? (l := tables_1_3) (i := 116) rfl)))) rfl
theorem mw_3_119 : (.methodLink RJ1 92 yJ9_max_7cf53 : Cond) ∈ wsA := wsA_t (List.mem_append_right _ (List.mem_append_right _ (List.mem_append_left _ (List.mem_of_getElem? (l := tables_1_3) (i := 119) rfl)))) rfl
theorem mw_3_122 : (.methodLink RJ1 38 yJ9_min_7cf53 : Cond) ∈ wsA := wsA_t (List.mem_append_right _ (List.mem_append_right _ (List.mem_append_left _ (List.mem_of_getElem? (l := tables_1_3) (i := 122) rfl)))) rfl
theorem mw_3_126 : (.static yJ1_indexOfChar_4cfef : Cond) ∈ wsA := wsA_t (List.mem_append_right _ (List.mem_append_right _ (List.mem_append_left _ (List.mem_of_getElem? (l := tables_1_3) (i := 126) rfl)))) rfl
theorem mw_3_127 : (.code yJ1_indexOfChar_4cfef cJ1_indexOfChar_4cfef 6 (some .int) : Cond) ∈ wsA := wsA_t (List.mem_append_right _ (List.mem_append_right _ (List.mem_append_left _ (List.mem_of_getElem? (l := tables_1_3) (i := 127) rfl)))) rfl
theorem mw_3_125 : (.methodLink RJ1 95 yJ1_indexOfChar_4cfef : Cond) ∈ wsA := wsA_t (List.mem_append_right _ (List.mem_append_right _ (List.mem_append_left _ (List.mem_of_getElem? (l := tables_1_3) (i := 125) rfl)))) rfl
theorem dJ1_indexOf_4cfef_0 : decode cJ1_indexOf_4cfef 0 = .ok (.iload_n 1, 1) := by decide +kernel
theorem dJ1_indexOf_4cfef_1 : decode cJ1_indexOf_4cfef 1 = .ok (.invokestatic 88, 3) := by decide +kernel
theorem dJ1_indexOf_4cfef_4 : decode cJ1_indexOf_4cfef 4 = .ok (.ifCond .ne 5, 3) := by decide +kernel
theorem dJ1_indexOf_4cfef_9 : decode cJ1_indexOf_4cfef 9 = .ok (.iload_n 2, 1) := by decide +kernel
theorem dJ1_indexOf_4cfef_10 : decode cJ1_indexOf_4cfef 10 = .ok (.iconst 0, 1) := by decide +kernel
theorem dJ1_indexOf_4cfef_11 : decode cJ1_indexOf_4cfef 11 = .ok (.invokestatic 92, 3) := by decide +kernel
theorem dJ1_indexOf_4cfef_14 : decode cJ1_indexOf_4cfef 14 = .ok (.istore_n 2, 1) := by decide +kernel
theorem dJ1_indexOf_4cfef_15 : decode cJ1_indexOf_4cfef 15 = .ok (.iload_n 3, 1) := by decide +kernel
theorem dJ1_indexOf_4cfef_16 : decode cJ1_indexOf_4cfef 16 = .ok (.aload_n 0, 1) := by decide +kernel
theorem dJ1_indexOf_4cfef_17 : decode cJ1_indexOf_4cfef 17 = .ok (.arraylength, 1) := by decide +kernel
theorem dJ1_indexOf_4cfef_18 : decode cJ1_indexOf_4cfef 18 = .ok (.invokestatic 38, 3) := by decide +kernel
theorem dJ1_indexOf_4cfef_21 : decode cJ1_indexOf_4cfef 21 = .ok (.istore_n 3, 1) := by decide +kernel
theorem dJ1_indexOf_4cfef_22 : decode cJ1_indexOf_4cfef 22 = .ok (.iload_n 2, 1) := by decide +kernel
theorem dJ1_indexOf_4cfef_23 : decode cJ1_indexOf_4cfef 23 = .ok (.iload_n 3, 1) := by decide +kernel
theorem dJ1_indexOf_4cfef_24 : decode cJ1_indexOf_4cfef 24 = .ok (.if_icmp .lt 5, 3) := by decide +kernel
theorem dJ1_indexOf_4cfef_29 : decode cJ1_indexOf_4cfef 29 = .ok (.aload_n 0, 1) := by decide +kernel
theorem dJ1_indexOf_4cfef_30 : decode cJ1_indexOf_4cfef 30 = .ok (.iload_n 1, 1) := by decide +kernel
theorem dJ1_indexOf_4cfef_31 : decode cJ1_indexOf_4cfef 31 = .ok (.iload_n 2, 1) := by decide +kernel
theorem dJ1_indexOf_4cfef_32 : decode cJ1_indexOf_4cfef 32 = .ok (.iload_n 3, 1) := by decide +kernel
theorem dJ1_indexOf_4cfef_33 : decode cJ1_indexOf_4cfef 33 = .ok (.invokestatic 95, 3) := by decide +kernel
theorem dJ1_indexOf_4cfef_36 : decode cJ1_indexOf_4cfef 36 = .ok (.ireturn, 1) := by decide +kernel
theorem dJ1_indexOf_4cfef_7 : decode cJ1_indexOf_4cfef 7 = .ok (.iconst (-1), 1) := by decide +kernel
theorem dJ1_indexOf_4cfef_8 : decode cJ1_indexOf_4cfef 8 = .ok (.ireturn, 1) := by decide +kernel
theorem ms_J1_canEncode_9a6ad : MS RJ1 yJ1_canEncode_9a6ad cJ1_canEncode_9a6ad 1 (some .boolean) 1 := ⟨mw_3_117, mw_1_15, mw_3_118, ⟨rfl, by decide, by decide, by decide +kernel⟩⟩
theorem ms_J1_indexOfChar_4cfef : MS RJ1 yJ1_indexOfChar_4cfef cJ1_indexOfChar_4cfef 6 (some .int) 4 := ⟨mw_3_126, mw_1_15, mw_3_127, ⟨rfl, by decide, by decide, by decide +kernel⟩⟩
set_option maxHeartbeats 4000000 in
set_option maxRecDepth 100000 in
theorem cs_J1_indexOf_4cfef_1 (l : Launch) (D : va_G) (cA : Nat → ClassId) (L : List Nat) (T : Nat → Nat) (r : Rg) (hG : GR L T r) (hL : L.Nodup) (σ : Sg) (ρ : Lg) (hW : WT L ry T σ) (sz : Nat) (adK adV : Nat → Nat) (p1 : Int32) : Met l yJ1_indexOf_4cfef (.code yJ1_indexOf_4cfef cJ1_indexOf_4cfef 4 (some .int) :: wsA) ({ frames := 1, cells := 0, slots := 0, locals := 40 }) (PZ adK adV D cA L T r σ ρ sz [.ref (adV 1), .int p1, .int 0, .int 11]) (QI D cA L T r ry ([] : List (Nat × Nat)) σ sz (fun x σ1 => True)) 0 0 (dm L sz) := by
  refine Met.ofW (cc := cJ1_indexOf_4cfef) (maxL := 4) (ret := (some .int)) (by decide) rfl ?_
  intro p e s m args below meth c s₁ B hml hv
  obtain ⟨rfl, hsz, hP, hK, hN, hV⟩ := hv
  have hx := B.exec
  have hb := B.bytes
  have hr := B.returns
  have hts : ∀ w ∈ wsA, w.before _ s = true := fun w h => atoms_spec (ws := .code yJ1_indexOf_4cfef cJ1_indexOf_4cfef 4 (some .int) :: wsA) B.pre w (List.mem_cons_of_mem _ h)
  have hown : s.vm.findClass RJ1 = some m.cls := findClass_of_methodNamed B.named
  subst hsz
  have hLA : LA (dm L s.heap.size) L := ⟨hL, fun a h => Or.inl h⟩
  have hA : ∀ q : Nat, s.heap.size ≤ q → dm L s.heap.size q := fun q h => Or.inr h
  have hS : va_S (dm L s.heap.size) s.heap s.heap [] := va_S.rf
  have hB : TS D cA L T r ry ([] : List (Nat × Nat)) σ σ ρ s.heap := ⟨hP, hW, FR.rf⟩
  have hl := lv_entry ([.ref (adV 1), .int p1, .int 0, .int 11]) (n := 4) (Nat.le_of_ble_eq_true rfl)
  rw [lg_entry_eq]
  generalize (lg_sl ([.ref (adV 1), .int p1, .int 0, .int 11]) ++ List.replicate (4 - (lg_sl ([.ref (adV 1), .int p1, .int 0, .int 11])).length) Slot.unset).toArray = ls at hl ⊢
  have hl : lv_has ls 4 [(0, .ref (adV 1)), (1, .int p1), (2, .int 0), (3, .int 11)] := hl
  refine lv_iload_n hx hb dJ1_indexOf_4cfef_0 rfl (lv_at hl 1 rfl) ?_
  refine t_ci (va_runS (As := [.int p1]) (rest := []) ⟨hx, hb, hml, hown, hts⟩ (cy_J1_canEncode_9a6ad l D cA L T r hG hLA.1 σ ρ hB.2.1 _ p1) (cS hts ms_J1_canEncode_9a6ad mw_3_116 rfl rfl ⟨Nat.le_of_ble_eq_true rfl, Nat.le_of_ble_eq_true rfl⟩) (pS hB.1 hK hN) rfl rfl hl.1 rfl (lv_room (Nat.le_of_ble_eq_true rfl)) dJ1_indexOf_4cfef_1 ⟨Nat.le_of_ble_eq_true rfl, Nat.le_of_ble_eq_true rfl⟩) hLA hA hB hS (by decide) (fun x_3 σ_1 ρ_2 H locs hB fσ_1 pσ_1 hS => ?_)
  have qσ_1 := FR.nil fσ_1
  subst qσ_1
  obtain ⟨lx_3, ux_3⟩ := pσ_1
  refine lv_if_ne (tgt := 9) hx hb dJ1_indexOf_4cfef_4 (by decide) (fun c_4 => ?_) (fun c_4 => ?_)
  · skip
    have uc_4 := i_ne (n := 0) (by decide) c_4
    refine lv_iload_n hx hb dJ1_indexOf_4cfef_9 rfl (lv_at hl 2 rfl) ?_
    refine lv_iconst (v := 0) hx hb dJ1_indexOf_4cfef_10 (by decide) ?_
    refine va_mmax hx hb (hml.trans hl.1.symm) hown (hts _ mw_3_119) (hts _ mw_3_120) (hts _ mw_1_18) (hts _ mw_3_121) (Nat.le_of_ble_eq_true rfl) (Nat.le_of_ble_eq_true rfl) (Nat.zero_le _) (Nat.zero_le _) dJ1_indexOf_4cfef_11 ?_
    refine lv_topi (fun x_5 ex_5 => ?_)
    obtain ⟨lx_5, mx_5, ux_5⟩ := m_max (by decide : (0 : Int32).toInt = 0) (by decide : (0 : Int32).toInt = 0) ex_5
    refine lv_istore_n (lv' := [(2, .int x_5), (0, .ref (adV 1)), (1, .int p1), (3, .int 11)]) hx hb dJ1_indexOf_4cfef_14 rfl hl (by decide) rfl (fun ls hl => ?_)
    refine lv_iload_n hx hb dJ1_indexOf_4cfef_15 rfl (lv_at hl 3 rfl) ?_
    refine lv_aload_n hx hb dJ1_indexOf_4cfef_16 rfl (lv_at hl 1 rfl) ?_
    refine va_tlen hx hb (hV.1.1 1 (by decide)).2.2.2 hS (v := 11) rfl dJ1_indexOf_4cfef_17 ?_
    refine va_mmin hx hb (hml.trans hl.1.symm) hown (hts _ mw_3_122) (hts _ mw_3_123) (hts _ mw_1_18) (hts _ mw_3_124) (Nat.le_of_ble_eq_true rfl) (Nat.le_of_ble_eq_true rfl) (Nat.zero_le _) (Nat.zero_le _) dJ1_indexOf_4cfef_18 ?_
    refine lv_topi (fun x_6 ex_6 => ?_)
    obtain ⟨lx_6, mx_6, ux_6⟩ := m_min (by decide : (11 : Int32).toInt = 11) (by decide : (11 : Int32).toInt = 11) ex_6
    refine lv_istore_n (lv' := [(3, .int x_6), (2, .int x_5), (0, .ref (adV 1)), (1, .int p1)]) hx hb dJ1_indexOf_4cfef_21 rfl hl (by decide) rfl (fun ls hl => ?_)
    refine lv_iload_n hx hb dJ1_indexOf_4cfef_22 rfl (lv_at hl 1 rfl) ?_
    refine lv_iload_n hx hb dJ1_indexOf_4cfef_23 rfl (lv_at hl 0 rfl) ?_
    refine lv_icmp_lt (tgt := 29) hx hb dJ1_indexOf_4cfef_24 (by decide) (fun c_7 => ?_) (fun c_7 => ?_)
    · skip
      have uc_7 := j_lt c_7
      refine lv_aload_n hx hb dJ1_indexOf_4cfef_29 rfl (lv_at hl 2 rfl) ?_
      refine lv_iload_n hx hb dJ1_indexOf_4cfef_30 rfl (lv_at hl 3 rfl) ?_
      refine lv_iload_n hx hb dJ1_indexOf_4cfef_31 rfl (lv_at hl 1 rfl) ?_
      refine lv_iload_n hx hb dJ1_indexOf_4cfef_32 rfl (lv_at hl 0 rfl) ?_
      refine t_ci (va_runS (As := [.ref (adV 1), .int p1, .int x_5, .int x_6]) (rest := []) ⟨hx, hb, hml, hown, hts⟩ (cs_J1_indexOfChar_4cfef_1 l D cA L T r hG hLA.1 σ ρ_2 hB.2.1 _ adK adV p1 x_5 x_6 (by first | omega | decide) (by first | omega | decide) (by first | omega | decide) (by first | omega | decide)) (cS hts ms_J1_indexOfChar_4cfef mw_3_125 rfl rfl ⟨Nat.le_of_ble_eq_true rfl, Nat.le_of_ble_eq_true rfl⟩) (pSz hB.1 hK hN (hV.to hS)) rfl rfl hl.1 rfl (lv_room (Nat.le_of_ble_eq_true rfl)) dJ1_indexOf_4cfef_33 ⟨Nat.le_of_ble_eq_true rfl, Nat.le_of_ble_eq_true rfl⟩) hLA hA hB hS (by decide) (fun x_10 σ_8 ρ_9 H locs hB fσ_8 pσ_8 hS => ?_)
      have qσ_8 := FR.nil fσ_8
      subst qσ_8
      exact W.iret (v := x_10) hx hb hr (fun t ht hW => ⟨⟨x_10, (σ, ρ_9), rfl, ⟨hB.2.1, hB.2.2, trivial⟩, (show TP D cA L T r σ ρ_9 t.heap from by rw [ht]; exact hB.1)⟩, hS.F ht⟩) hS.2.2 dJ1_indexOf_4cfef_36
    · skip
      have uc_7 := j_nlt c_7
      exfalso; omega
  · skip
    have uc_4 := i_eq (n := 0) (by decide) c_4
    refine lv_iconst (v := (-1)) hx hb dJ1_indexOf_4cfef_7 (by decide) ?_
    exact W.iret (v := (-1)) hx hb hr (fun t ht hW => ⟨⟨(-1), (σ, ρ_2), rfl, ⟨hB.2.1, hB.2.2, trivial⟩, (show TP D cA L T r σ ρ_2 t.heap from by rw [ht]; exact hB.1)⟩, hS.F ht⟩) hS.2.2 dJ1_indexOf_4cfef_8
theorem mw_3_52 : (.instanceMethod yJ0_length_8abf5 : Cond) ∈ wsA := wsA_t (List.mem_append_right _ (List.mem_append_right _ (List.mem_append_left _ (List.mem_of_getElem? (l := tables_1_3) (i := 52) rfl)))) rfl
theorem mw_3_53 : (.selects RJ0 yJ0_length_8abf5 yJ0_length_8abf5 : Cond) ∈ wsA := wsA_t (List.mem_append_right _ (List.mem_append_right _ (List.mem_append_left _ (List.mem_of_getElem? (l := tables_1_3) (i := 53) rfl)))) rfl
theorem mw_3_54 : (.code yJ0_length_8abf5 cJ0_length_8abf5 1 (some .int) : Cond) ∈ wsA := wsA_t (List.mem_append_right _ (List.mem_append_right _ (List.mem_append_left _ (List.mem_of_getElem? (l := tables_1_3) (i := 54) rfl)))) rfl
theorem mw_3_112 : (.methodLink RJ0 505 yJ0_length_8abf5 : Cond) ∈ wsA := wsA_t (List.mem_append_right _ (List.mem_append_right _ (List.mem_append_left _ (List.mem_of_getElem? (l := tables_1_3) (i := 112) rfl)))) rfl
theorem mw_3_114 : (.static yJ1_indexOf_4cfef : Cond) ∈ wsA := wsA_t (List.mem_append_right _ (List.mem_append_right _ (List.mem_append_left _ (List.mem_of_getElem? (l := tables_1_3) (i := 114) rfl)))) rfl
theorem mw_3_115 : (.code yJ1_indexOf_4cfef cJ1_indexOf_4cfef 4 (some .int) : Cond) ∈ wsA := wsA_t (List.mem_append_right _ (List.mem_append_right _ (List.mem_append_left _ (List.mem_of_getElem? (l := tables_1_3) (i := 115) rfl)))) rfl
theorem mw_3_113 : (.methodLink RJ0 637 yJ1_indexOf_4cfef : Cond) ∈ wsA := wsA_t (List.mem_append_right _ (List.mem_append_right _ (List.mem_append_left _ (List.mem_of_getElem? (l := tables_1_3) (i := 113) rfl)))) rfl
theorem dJ0_indexOf_7cf53_0 : decode cJ0_indexOf_7cf53 0 = .ok (.aload_n 0, 1) := by decide +kernel
theorem dJ0_indexOf_7cf53_1 : decode cJ0_indexOf_7cf53 1 = .ok (.invokevirtual 492, 3) := by decide +kernel
theorem dJ0_indexOf_7cf53_4 : decode cJ0_indexOf_7cf53 4 = .ok (.ifCond .eq 19, 3) := by decide +kernel
theorem dJ0_indexOf_7cf53_7 : decode cJ0_indexOf_7cf53 7 = .ok (.aload_n 0, 1) := by decide +kernel
theorem dJ0_indexOf_7cf53_8 : decode cJ0_indexOf_7cf53 8 = .ok (.getfield 9, 3) := by decide +kernel
theorem dJ0_indexOf_7cf53_11 : decode cJ0_indexOf_7cf53 11 = .ok (.iload_n 1, 1) := by decide +kernel
theorem dJ0_indexOf_7cf53_12 : decode cJ0_indexOf_7cf53 12 = .ok (.iload_n 2, 1) := by decide +kernel
theorem dJ0_indexOf_7cf53_13 : decode cJ0_indexOf_7cf53 13 = .ok (.aload_n 0, 1) := by decide +kernel
theorem dJ0_indexOf_7cf53_14 : decode cJ0_indexOf_7cf53 14 = .ok (.invokevirtual 505, 3) := by decide +kernel
theorem dJ0_indexOf_7cf53_17 : decode cJ0_indexOf_7cf53 17 = .ok (.invokestatic 637, 3) := by decide +kernel
theorem dJ0_indexOf_7cf53_20 : decode cJ0_indexOf_7cf53 20 = .ok (.goto 16, 3) := by decide +kernel
theorem dJ0_indexOf_7cf53_36 : decode cJ0_indexOf_7cf53 36 = .ok (.ireturn, 1) := by decide +kernel
theorem mv_J0_length_8abf5 : MV RJ0 yJ0_length_8abf5 cJ0_length_8abf5 1 (some .int) 0 := ⟨mw_3_52, mw_3_53, mw_1_14, mw_3_54, ⟨rfl, by decide, by decide, by decide +kernel⟩⟩
theorem mo_J1_indexOf_4cfef : MZ yJ1_indexOf_4cfef cJ1_indexOf_4cfef 4 (some .int) 4 := ⟨mw_3_114, mw_1_15, mw_3_115, by decide, by decide, by decide +kernel⟩
set_option maxHeartbeats 4000000 in
set_option maxRecDepth 100000 in
theorem cs_J0_indexOf_7cf53_1 (l : Launch) (D : va_G) (cA : Nat → ClassId) (L : List Nat) (T : Nat → Nat) (r : Rg) (hG : GR L T r) (hL : L.Nodup) (σ : Sg) (ρ : Lg) (hW : WT L ry T σ) (sz : Nat) (adK adV : Nat → Nat) (p1 : Int32) : Met l yJ0_indexOf_7cf53 (.code yJ0_indexOf_7cf53 cJ0_indexOf_7cf53 3 (some .int) :: wsA) ({ frames := 2, cells := 0, slots := 0, locals := 63 }) (PZ adK adV D cA L T r σ ρ sz [.ref (adK 1), .int p1, .int 0]) (QI D cA L T r ry ([] : List (Nat × Nat)) σ sz (fun x σ1 => True)) 0 0 (dm L sz) := by
  refine Met.ofW (cc := cJ0_indexOf_7cf53) (maxL := 3) (ret := (some .int)) (by decide) rfl ?_
  intro p e s m args below meth c s₁ B hml hv
  obtain ⟨rfl, hsz, hP, hK, hN, hV⟩ := hv
  have hx := B.exec
  have hb := B.bytes
  have hr := B.returns
  have hts : ∀ w ∈ wsA, w.before _ s = true := fun w h => atoms_spec (ws := .code yJ0_indexOf_7cf53 cJ0_indexOf_7cf53 3 (some .int) :: wsA) B.pre w (List.mem_cons_of_mem _ h)
  have hown : s.vm.findClass RJ0 = some m.cls := findClass_of_methodNamed B.named
  subst hsz
  have hLA : LA (dm L s.heap.size) L := ⟨hL, fun a h => Or.inl h⟩
  have hA : ∀ q : Nat, s.heap.size ≤ q → dm L s.heap.size q := fun q h => Or.inr h
  have hS : va_S (dm L s.heap.size) s.heap s.heap [] := va_S.rf
  have hB : TS D cA L T r ry ([] : List (Nat × Nat)) σ σ ρ s.heap := ⟨hP, hW, FR.rf⟩
  have hl := lv_entry ([.ref (adK 1), .int p1, .int 0]) (n := 3) (Nat.le_of_ble_eq_true rfl)
  rw [lg_entry_eq]
  generalize (lg_sl ([.ref (adK 1), .int p1, .int 0]) ++ List.replicate (3 - (lg_sl ([.ref (adK 1), .int p1, .int 0])).length) Slot.unset).toArray = ls at hl ⊢
  have hl : lv_has ls 3 [(0, .ref (adK 1)), (1, .int p1), (2, .int 0)] := hl
  refine lv_aload_n hx hb dJ0_indexOf_7cf53_0 rfl (lv_at hl 0 rfl) ?_
  refine t_ci (va_runV (As := []) (rest := []) ⟨hx, hb, hml, hown, hts⟩ (cs_J0_isLatin1_aae02_1 l D cA L T r hG hLA.1 σ ρ hB.2.1 _ adK adV ) (cV hts mv_J0_isLatin1_aae02 mw_3_65 rfl rfl ⟨Nat.le_of_ble_eq_true rfl, Nat.le_of_ble_eq_true rfl⟩) (pK hB.1 hK hN (hV.to hS) (i := 1) (by decide)) rfl rfl hl.1 rfl (lv_room (Nat.le_of_ble_eq_true rfl)) dJ0_indexOf_7cf53_1 ⟨Nat.le_of_ble_eq_true rfl, Nat.le_of_ble_eq_true rfl⟩) hLA hA hB hS (by decide) (fun x_3 σ_1 ρ_2 H locs hB fσ_1 pσ_1 hS => ?_)
  have qσ_1 := FR.nil fσ_1
  subst qσ_1
  subst pσ_1
  refine lv_if_eq (tgt := 23) hx hb dJ0_indexOf_7cf53_4 (by decide) (fun c9 => absurd c9 (by decide)) (fun _ => ?_)
  refine lv_aload_n hx hb dJ0_indexOf_7cf53_7 rfl (lv_at hl 0 rfl) ?_
  refine vk_getf hx hb (hV.1.1 1 (by decide)).2.2.1 hS hown (hts _ mw_8_143) (fun _ h => h) dJ0_indexOf_7cf53_8 ?_
  refine lv_iload_n hx hb dJ0_indexOf_7cf53_11 rfl (lv_at hl 1 rfl) ?_
  refine lv_iload_n hx hb dJ0_indexOf_7cf53_12 rfl (lv_at hl 2 rfl) ?_
  refine lv_aload_n hx hb dJ0_indexOf_7cf53_13 rfl (lv_at hl 0 rfl) ?_
  refine t_ci (va_runV (As := []) (rest := [.int 0, .int p1, .ref (adV 1)]) ⟨hx, hb, hml, hown, hts⟩ (cs_J0_length_8abf5_1 l D cA L T r hG hLA.1 σ ρ_2 hB.2.1 _ adK adV ) (cV hts mv_J0_length_8abf5 mw_3_112 rfl rfl ⟨Nat.le_of_ble_eq_true rfl, Nat.le_of_ble_eq_true rfl⟩) (pK hB.1 hK hN (hV.to hS) (i := 1) (by decide)) rfl rfl hl.1 rfl (lv_room (Nat.le_of_ble_eq_true rfl)) dJ0_indexOf_7cf53_14 ⟨Nat.le_of_ble_eq_true rfl, Nat.le_of_ble_eq_true rfl⟩) hLA hA hB hS (by decide) (fun x_6 σ_4 ρ_5 H locs hB fσ_4 pσ_4 hS => ?_)
  have qσ_4 := FR.nil fσ_4
  subst qσ_4
  subst pσ_4
  refine t_ci (va_runS (As := [.ref (adV 1), .int p1, .int 0, .int 11]) (rest := []) ⟨hx, hb, hml, hown, hts⟩ (cs_J1_indexOf_4cfef_1 l D cA L T r hG hLA.1 σ ρ_5 hB.2.1 _ adK adV p1) (cO hts mo_J1_indexOf_4cfef mw_3_113 rfl rfl ⟨Nat.le_of_ble_eq_true rfl, Nat.le_of_ble_eq_true rfl⟩) (pSz hB.1 hK hN (hV.to hS)) rfl rfl hl.1 rfl (lv_room (Nat.le_of_ble_eq_true rfl)) dJ0_indexOf_7cf53_17 ⟨Nat.le_of_ble_eq_true rfl, Nat.le_of_ble_eq_true rfl⟩) hLA hA hB hS (by decide) (fun x_9 σ_7 ρ_8 H locs hB fσ_7 pσ_7 hS => ?_)
  have qσ_7 := FR.nil fσ_7
  subst qσ_7
  refine lv_goto (tgt := 36) hx hb dJ0_indexOf_7cf53_20 (by decide) ?_
  exact W.iret (v := x_9) hx hb hr (fun t ht hW => ⟨⟨x_9, (σ, ρ_8), rfl, ⟨hB.2.1, hB.2.2, trivial⟩, (show TP D cA L T r σ ρ_8 t.heap from by rw [ht]; exact hB.1)⟩, hS.F ht⟩) hS.2.2 dJ0_indexOf_7cf53_36
theorem mw_3_109 : (.instanceMethod yJ0_indexOf_7cf53 : Cond) ∈ wsA := wsA_t (List.mem_append_right _ (List.mem_append_right _ (List.mem_append_left _ (List.mem_of_getElem? (l := tables_1_3) (i := 109) rfl)))) rfl
theorem mw_3_110 : (.selects RJ0 yJ0_indexOf_7cf53 yJ0_indexOf_7cf53 : Cond) ∈ wsA := wsA_t (List.mem_append_right _ (List.mem_append_right _ (List.mem_append_left _ (List.mem_of_getElem? (l := tables_1_3) (i := 110) rfl)))) rfl
theorem mw_3_111 : (.code yJ0_indexOf_7cf53 cJ0_indexOf_7cf53 3 (some .int) : Cond) ∈ wsA := wsA_t (List.mem_append_right _ (List.mem_append_right _ (List.mem_append_left _ (List.mem_of_getElem? (l := tables_1_3) (i := 111) rfl)))) rfl
theorem mw_3_108 : (.methodLink RJ0 633 yJ0_indexOf_7cf53 : Cond) ∈ wsA := wsA_t (List.mem_append_right _ (List.mem_append_right _ (List.mem_append_left _ (List.mem_of_getElem? (l := tables_1_3) (i := 108) rfl)))) rfl
theorem dJ0_indexOf_0f7a4_0 : decode cJ0_indexOf_0f7a4 0 = .ok (.aload_n 0, 1) := by decide +kernel
theorem dJ0_indexOf_0f7a4_1 : decode cJ0_indexOf_0f7a4 1 = .ok (.iload_n 1, 1) := by decide +kernel
theorem dJ0_indexOf_0f7a4_2 : decode cJ0_indexOf_0f7a4 2 = .ok (.iconst 0, 1) := by decide +kernel
theorem dJ0_indexOf_0f7a4_3 : decode cJ0_indexOf_0f7a4 3 = .ok (.invokevirtual 633, 3) := by decide +kernel
theorem dJ0_indexOf_0f7a4_6 : decode cJ0_indexOf_0f7a4 6 = .ok (.ireturn, 1) := by decide +kernel
theorem mv_J0_indexOf_7cf53 : MV RJ0 yJ0_indexOf_7cf53 cJ0_indexOf_7cf53 3 (some .int) 2 := ⟨mw_3_109, mw_3_110, mw_1_14, mw_3_111, ⟨rfl, by decide, by decide, by decide +kernel⟩⟩
set_option maxHeartbeats 4000000 in
set_option maxRecDepth 100000 in
theorem cs_J0_indexOf_0f7a4_1 (l : Launch) (D : va_G) (cA : Nat → ClassId) (L : List Nat) (T : Nat → Nat) (r : Rg) (hG : GR L T r) (hL : L.Nodup) (σ : Sg) (ρ : Lg) (hW : WT L ry T σ) (sz : Nat) (adK adV : Nat → Nat) (p1 : Int32) : Met l yJ0_indexOf_0f7a4 (.code yJ0_indexOf_0f7a4 cJ0_indexOf_0f7a4 2 (some .int) :: wsA) ({ frames := 3, cells := 0, slots := 0, locals := 85 }) (PZ adK adV D cA L T r σ ρ sz [.ref (adK 1), .int p1]) (QI D cA L T r ry ([] : List (Nat × Nat)) σ sz (fun x σ1 => True)) 0 0 (dm L sz) := by
  refine Met.ofW (cc := cJ0_indexOf_0f7a4) (maxL := 2) (ret := (some .int)) (by decide) rfl ?_
  intro p e s m args below meth c s₁ B hml hv
  obtain ⟨rfl, hsz, hP, hK, hN, hV⟩ := hv
  have hx := B.exec
  have hb := B.bytes
  have hr := B.returns
  have hts : ∀ w ∈ wsA, w.before _ s = true := fun w h => atoms_spec (ws := .code yJ0_indexOf_0f7a4 cJ0_indexOf_0f7a4 2 (some .int) :: wsA) B.pre w (List.mem_cons_of_mem _ h)
  have hown : s.vm.findClass RJ0 = some m.cls := findClass_of_methodNamed B.named
  subst hsz
  have hLA : LA (dm L s.heap.size) L := ⟨hL, fun a h => Or.inl h⟩
  have hA : ∀ q : Nat, s.heap.size ≤ q → dm L s.heap.size q := fun q h => Or.inr h
  have hS : va_S (dm L s.heap.size) s.heap s.heap [] := va_S.rf
  have hB : TS D cA L T r ry ([] : List (Nat × Nat)) σ σ ρ s.heap := ⟨hP, hW, FR.rf⟩
  have hl := lv_entry ([.ref (adK 1), .int p1]) (n := 2) (Nat.le_of_ble_eq_true rfl)
  rw [lg_entry_eq]
  generalize (lg_sl ([.ref (adK 1), .int p1]) ++ List.replicate (2 - (lg_sl ([.ref (adK 1), .int p1])).length) Slot.unset).toArray = ls at hl ⊢
  have hl : lv_has ls 2 [(0, .ref (adK 1)), (1, .int p1)] := hl
  refine lv_aload_n hx hb dJ0_indexOf_0f7a4_0 rfl (lv_at hl 0 rfl) ?_
  refine lv_iload_n hx hb dJ0_indexOf_0f7a4_1 rfl (lv_at hl 1 rfl) ?_
  refine lv_iconst (v := 0) hx hb dJ0_indexOf_0f7a4_2 (by decide) ?_
  refine t_ci (va_runV (As := [.int p1, .int 0]) (rest := []) ⟨hx, hb, hml, hown, hts⟩ (cs_J0_indexOf_7cf53_1 l D cA L T r hG hLA.1 σ ρ hB.2.1 _ adK adV p1) (cV hts mv_J0_indexOf_7cf53 mw_3_108 rfl rfl ⟨Nat.le_of_ble_eq_true rfl, Nat.le_of_ble_eq_true rfl⟩) (pK hB.1 hK hN (hV.to hS) (i := 1) (by decide)) rfl rfl hl.1 rfl (lv_room (Nat.le_of_ble_eq_true rfl)) dJ0_indexOf_0f7a4_3 ⟨Nat.le_of_ble_eq_true rfl, Nat.le_of_ble_eq_true rfl⟩) hLA hA hB hS (by decide) (fun x_3 σ_1 ρ_2 H locs hB fσ_1 pσ_1 hS => ?_)
  have qσ_1 := FR.nil fσ_1
  subst qσ_1
  exact W.iret (v := x_3) hx hb hr (fun t ht hW => ⟨⟨x_3, (σ, ρ_2), rfl, ⟨hB.2.1, hB.2.2, trivial⟩, (show TP D cA L T r σ ρ_2 t.heap from by rw [ht]; exact hB.1)⟩, hS.F ht⟩) hS.2.2 dJ0_indexOf_0f7a4_6
