theorem mw_3_51 : (.methodLink RX9 61 yJ0_length_8abf5 : Cond) ∈ wsA := wsA_t (List.mem_append_right _ (List.mem_append_right _ (List.mem_append_left _ (List.mem_of_getElem? (l := tables_1_3) (i := 51) rfl)))) rfl
theorem mw_3_62 : (.instanceMethod yJ0_charAt_5068e : Cond) ∈ wsA := wsA_t (List.mem_append_right _ (List.mem_append_right _ (List.mem_append_left _ (List.mem_of_getElem? (l := tables_1_3) (i := 62) rfl)))) rfl
theorem mw_3_63 : (.selects RJ0 yJ0_charAt_5068e yJ0_charAt_5068e : Cond) ∈ wsA := wsA_t (List.mem_append_right _ (List.mem_append_right _ (List.mem_append_left _ (List.mem_of_getElem? (l := tables_1_3) (i := 63) rfl)))) rfl
theorem mw_3_64 : (.code yJ0_charAt_5068e cJ0_charAt_5068e 2 (some .char) : Cond) ∈ wsA := wsA_t (List.mem_append_right _ (List.mem_append_right _ (List.mem_append_left _ (List.mem_of_getElem? (l := tables_1_3) (i := 64) rfl)))) rfl
theorem mw_3_61 : (.methodLink RX9 67 yJ0_charAt_5068e : Cond) ∈ wsA := wsA_t (List.mem_append_right _ (List.mem_append_right _ (List.mem_append_left _ (List.mem_of_getElem? (l := tables_1_3) (i := 61) rfl)))) rfl
theorem dX9_wordOf_0 : decode cX9_wordOf 0 = .ok (.iconst 0, 1) := by decide +kernel
theorem dX9_wordOf_1 : decode cX9_wordOf 1 = .ok (.istore_n 3, 1) := by decide +kernel
theorem dX9_wordOf_2 : decode cX9_wordOf 2 = .ok (.iconst 0, 1) := by decide +kernel
theorem dX9_wordOf_3 : decode cX9_wordOf 3 = .ok (.istore 4, 2) := by decide +kernel
theorem dX9_wordOf_5 : decode cX9_wordOf 5 = .ok (.iload 4, 2) := by decide +kernel
theorem dX9_wordOf_7 : decode cX9_wordOf 7 = .ok (.ldc 59, 2) := by decide +kernel
theorem dX9_wordOf_9 : decode cX9_wordOf 9 = .ok (.invokevirtual 61, 3) := by decide +kernel
theorem dX9_wordOf_12 : decode cX9_wordOf 12 = .ok (.if_icmp .ge 115, 3) := by decide +kernel
theorem dX9_wordOf_15 : decode cX9_wordOf 15 = .ok (.iload_n 1, 1) := by decide +kernel
theorem dX9_wordOf_16 : decode cX9_wordOf 16 = .ok (.istore 5, 2) := by decide +kernel
theorem dX9_wordOf_18 : decode cX9_wordOf 18 = .ok (.iload 5, 2) := by decide +kernel
theorem dX9_wordOf_20 : decode cX9_wordOf 20 = .ok (.iload_n 2, 1) := by decide +kernel
theorem dX9_wordOf_21 : decode cX9_wordOf 21 = .ok (.if_icmp .ge 39, 3) := by decide +kernel
theorem dX9_wordOf_24 : decode cX9_wordOf 24 = .ok (.iload 4, 2) := by decide +kernel
theorem dX9_wordOf_26 : decode cX9_wordOf 26 = .ok (.ldc 59, 2) := by decide +kernel
theorem dX9_wordOf_28 : decode cX9_wordOf 28 = .ok (.invokevirtual 61, 3) := by decide +kernel
theorem dX9_wordOf_31 : decode cX9_wordOf 31 = .ok (.if_icmp .ge 29, 3) := by decide +kernel
theorem dX9_wordOf_34 : decode cX9_wordOf 34 = .ok (.ldc 59, 2) := by decide +kernel
theorem dX9_wordOf_36 : decode cX9_wordOf 36 = .ok (.iload 4, 2) := by decide +kernel
theorem dX9_wordOf_38 : decode cX9_wordOf 38 = .ok (.invokevirtual 67, 3) := by decide +kernel
theorem dX9_wordOf_41 : decode cX9_wordOf 41 = .ok (.aload_n 0, 1) := by decide +kernel
theorem dX9_wordOf_42 : decode cX9_wordOf 42 = .ok (.getfield 11, 3) := by decide +kernel
theorem dX9_wordOf_45 : decode cX9_wordOf 45 = .ok (.iload 5, 2) := by decide +kernel
theorem dX9_wordOf_47 : decode cX9_wordOf 47 = .ok (.iaload, 1) := by decide +kernel
theorem dX9_wordOf_48 : decode cX9_wordOf 48 = .ok (.if_icmp .ne 12, 3) := by decide +kernel
theorem dX9_wordOf_51 : decode cX9_wordOf 51 = .ok (.iinc 5 1, 3) := by decide +kernel
theorem dX9_wordOf_54 : decode cX9_wordOf 54 = .ok (.iinc 4 1, 3) := by decide +kernel
theorem dX9_wordOf_57 : decode cX9_wordOf 57 = .ok (.goto (-39), 3) := by decide +kernel
theorem dX9_wordOf_60 : decode cX9_wordOf 60 = .ok (.iload 5, 2) := by decide +kernel
theorem dX9_wordOf_62 : decode cX9_wordOf 62 = .ok (.iload_n 2, 1) := by decide +kernel
theorem dX9_wordOf_63 : decode cX9_wordOf 63 = .ok (.if_icmp .ne 27, 3) := by decide +kernel
theorem dX9_wordOf_90 : decode cX9_wordOf 90 = .ok (.iload 4, 2) := by decide +kernel
theorem dX9_wordOf_92 : decode cX9_wordOf 92 = .ok (.ldc 59, 2) := by decide +kernel
theorem dX9_wordOf_94 : decode cX9_wordOf 94 = .ok (.invokevirtual 61, 3) := by decide +kernel
theorem dX9_wordOf_97 : decode cX9_wordOf 97 = .ok (.if_icmp .ge 21, 3) := by decide +kernel
theorem dX9_wordOf_100 : decode cX9_wordOf 100 = .ok (.ldc 59, 2) := by decide +kernel
theorem dX9_wordOf_102 : decode cX9_wordOf 102 = .ok (.iload 4, 2) := by decide +kernel
theorem dX9_wordOf_104 : decode cX9_wordOf 104 = .ok (.invokevirtual 67, 3) := by decide +kernel
theorem dX9_wordOf_107 : decode cX9_wordOf 107 = .ok (.bipush 32, 2) := by decide +kernel
theorem dX9_wordOf_109 : decode cX9_wordOf 109 = .ok (.if_icmp .eq 9, 3) := by decide +kernel
theorem dX9_wordOf_112 : decode cX9_wordOf 112 = .ok (.iinc 4 1, 3) := by decide +kernel
theorem dX9_wordOf_115 : decode cX9_wordOf 115 = .ok (.goto (-25), 3) := by decide +kernel
theorem dX9_wordOf_118 : decode cX9_wordOf 118 = .ok (.iinc 4 1, 3) := by decide +kernel
theorem dX9_wordOf_121 : decode cX9_wordOf 121 = .ok (.iinc 3 1, 3) := by decide +kernel
theorem dX9_wordOf_124 : decode cX9_wordOf 124 = .ok (.goto (-119), 3) := by decide +kernel
theorem dX9_wordOf_66 : decode cX9_wordOf 66 = .ok (.iload 4, 2) := by decide +kernel
theorem dX9_wordOf_68 : decode cX9_wordOf 68 = .ok (.ldc 59, 2) := by decide +kernel
theorem dX9_wordOf_70 : decode cX9_wordOf 70 = .ok (.invokevirtual 61, 3) := by decide +kernel
theorem dX9_wordOf_73 : decode cX9_wordOf 73 = .ok (.if_icmp .ge 15, 3) := by decide +kernel
theorem dX9_wordOf_88 : decode cX9_wordOf 88 = .ok (.iload_n 3, 1) := by decide +kernel
theorem dX9_wordOf_89 : decode cX9_wordOf 89 = .ok (.ireturn, 1) := by decide +kernel
theorem dX9_wordOf_76 : decode cX9_wordOf 76 = .ok (.ldc 59, 2) := by decide +kernel
theorem dX9_wordOf_78 : decode cX9_wordOf 78 = .ok (.iload 4, 2) := by decide +kernel
theorem dX9_wordOf_80 : decode cX9_wordOf 80 = .ok (.invokevirtual 67, 3) := by decide +kernel
theorem dX9_wordOf_83 : decode cX9_wordOf 83 = .ok (.bipush 32, 2) := by decide +kernel
theorem dX9_wordOf_85 : decode cX9_wordOf 85 = .ok (.if_icmp .ne 5, 3) := by decide +kernel
theorem dX9_wordOf_127 : decode cX9_wordOf 127 = .ok (.iconst (-1), 1) := by decide +kernel
theorem dX9_wordOf_128 : decode cX9_wordOf 128 = .ok (.ireturn, 1) := by decide +kernel
theorem mv_J0_charAt_5068e : MV RJ0 yJ0_charAt_5068e cJ0_charAt_5068e 2 (some .char) 1 := ⟨mw_3_62, mw_3_63, mw_1_14, mw_3_64, ⟨rfl, by decide, by decide, by decide +kernel⟩⟩
set_option maxHeartbeats 4000000 in
set_option maxRecDepth 100000 in
theorem cy_X9_wordOf (l : Launch) (D : va_G) (cA : Nat → ClassId) (L : List Nat) (T : Nat → Nat) (r : Rg) (hG : GR L T r) (hL : L.Nodup) (σ : Sg) (ρ : Lg) (hW : WT L ry T σ) (sz : Nat) (adK adV : Nat → Nat) (h0 : Nat) (mh0 : h0 ∈ L) (th0 : T h0 = 9) (p1 : Int32) (p2 : Int32) (w0 : 0 ≤ p1.toInt) (w1 : p1.toInt ≤ 400) (w2 : p2.toInt ≤ 400) : Met l yX9_wordOf (.code yX9_wordOf cX9_wordOf 6 (some .int) :: wsA) ({ frames := 4, cells := 0, slots := 0, locals := 85 }) (PZ adK adV D cA L T r σ ρ sz [.ref h0, .int p1, .int p2]) (QI D cA L T r ry ([] : List (Nat × Nat)) σ sz (fun x σ1 => ((-1) ≤ x.toInt ∧ x.toInt ≤ 96))) 0 0 (dm L sz) := by
  refine Met.ofW (cc := cX9_wordOf) (maxL := 6) (ret := (some .int)) (by decide) rfl ?_
  intro p e s m args below meth c s₁ B hml hv
  obtain ⟨rfl, hsz, hP, hK, hN, hV⟩ := hv
  have hx := B.exec
  have hb := B.bytes
  have hr := B.returns
  have hts : ∀ w ∈ wsA, w.before _ s = true := fun w h => atoms_spec (ws := .code yX9_wordOf cX9_wordOf 6 (some .int) :: wsA) B.pre w (List.mem_cons_of_mem _ h)
  have hown : s.vm.findClass RX9 = some m.cls := findClass_of_methodNamed B.named
  subst hsz
  have hLA : LA (dm L s.heap.size) L := ⟨hL, fun a h => Or.inl h⟩
  have hA : ∀ q : Nat, s.heap.size ≤ q → dm L s.heap.size q := fun q h => Or.inr h
  have hS : va_S (dm L s.heap.size) s.heap s.heap [] := va_S.rf
  have hB : TS D cA L T r ry ([] : List (Nat × Nat)) σ σ ρ s.heap := ⟨hP, hW, FR.rf⟩
  have hl := lv_entry ([.ref h0, .int p1, .int p2]) (n := 6) (Nat.le_of_ble_eq_true rfl)
  rw [lg_entry_eq]
  generalize (lg_sl ([.ref h0, .int p1, .int p2]) ++ List.replicate (6 - (lg_sl ([.ref h0, .int p1, .int p2])).length) Slot.unset).toArray = ls at hl ⊢
  have hl : lv_has ls 6 [(0, .ref h0), (1, .int p1), (2, .int p2)] := hl
  refine lv_iconst (v := 0) hx hb dX9_wordOf_0 (by decide) ?_
  refine lv_istore_n (lv' := [(3, .int 0), (0, .ref h0), (1, .int p1), (2, .int p2)]) hx hb dX9_wordOf_1 rfl hl (by decide) rfl (fun ls hl => ?_)
  refine lv_iconst (v := 0) hx hb dX9_wordOf_2 (by decide) ?_
  refine lv_istore (lv' := [(4, .int 0), (3, .int 0), (0, .ref h0), (1, .int p1), (2, .int p2)]) hx hb dX9_wordOf_3 hl (by decide) rfl (fun ls hl => ?_)
  refine w_loop (α := Int32 × Int32 × Sg × Lg) (fun (i_1, i_2, σ_3, ρ_4) H locs ls => 0 ≤ i_1.toInt ∧ i_1.toInt ≤ 96 ∧ 0 ≤ i_2.toInt ∧ i_2.toInt ≤ 96 ∧ (i_1.toInt ≤ i_2.toInt) ∧ TS D cA L T r ry ([] : List (Nat × Nat)) σ σ_3 ρ_4 H ∧ va_S (dm L s.heap.size) s.heap H locs ∧ lv_has ls 6 [(4, .int i_2), (3, .int i_1), (0, .ref h0), (1, .int p1), (2, .int p2)]) (fun (i_1, i_2, σ_3, ρ_4) => (96 - i_2.toInt).toNat) ?_ ⟨0, 0, σ, ρ⟩ ⟨(by decide), (by decide), (by decide), (by decide), (by first | decide | omega), hB, hS, lv_sub hl [0, 1, 2, 3, 4] rfl⟩
  rintro ⟨i_1, i_2, σ_3, ρ_4⟩ H locs ls ⟨li_1, ui_1, li_2, ui_2, g_6, hB, hS, hl⟩ ih_5
  refine lv_iload hx hb dX9_wordOf_5 (lv_at hl 0 rfl) ?_
  refine va_ldcS hx hb hown hV.2.2.2.1 dX9_wordOf_7 ?_
  refine t_ci (va_runV (As := []) (rest := [.int i_2]) ⟨hx, hb, hml, hown, hts⟩ (cs_J0_length_8abf5_0 l D cA L T r hG hLA.1 σ_3 ρ_4 hB.2.1 _ adK adV ) (cV hts mv_J0_length_8abf5 mw_3_51 rfl rfl ⟨Nat.le_of_ble_eq_true rfl, Nat.le_of_ble_eq_true rfl⟩) (pK hB.1 hK hN (hV.to hS) (i := 0) (by decide)) rfl rfl hl.1 rfl (lv_room (Nat.le_of_ble_eq_true rfl)) dX9_wordOf_9 ⟨Nat.le_of_ble_eq_true rfl, Nat.le_of_ble_eq_true rfl⟩) hLA hA hB hS (by decide) (fun x_9 σ_7 ρ_8 H locs hB fσ_7 pσ_7 hS => ?_)
  have qσ_7 := FR.nil fσ_7
  subst qσ_7
  subst pσ_7
  refine lv_icmp_ge (tgt := 127) hx hb dX9_wordOf_12 (by decide) (fun c_10 => ?_) (fun c_10 => ?_)
  · skip
    have uc_10 := i_ge (n := 95) (by decide) c_10
    refine lv_iconst (v := (-1)) hx hb dX9_wordOf_127 (by decide) ?_
    exact W.iret (v := (-1)) hx hb hr (fun t ht hW => ⟨⟨(-1), (σ_3, ρ_8), rfl, ⟨hB.2.1, hB.2.2, (show (-1) ≤ ((-1) : Int32).toInt ∧ ((-1) : Int32).toInt ≤ 96 from ⟨by decide, by decide⟩)⟩, (show TP D cA L T r σ_3 ρ_8 t.heap from by rw [ht]; exact hB.1)⟩, hS.F ht⟩) hS.2.2 dX9_wordOf_128
  · skip
    have uc_10 := i_nge (n := 95) (by decide) c_10
    refine lv_iload_n hx hb dX9_wordOf_15 rfl (lv_at hl 3 rfl) ?_
    refine lv_istore (lv' := [(5, .int p1), (4, .int i_2), (3, .int i_1), (0, .ref h0), (1, .int p1), (2, .int p2)]) hx hb dX9_wordOf_16 hl (by decide) rfl (fun ls hl => ?_)
    refine w_loop (α := Int32 × Int32 × Sg × Lg) (fun (i_11, i_12, σ_13, ρ_14) H locs ls => 0 ≤ i_11.toInt ∧ i_11.toInt ≤ 95 ∧ 0 ≤ i_12.toInt ∧ i_12.toInt ≤ 400 ∧ (i_2.toInt ≤ i_11.toInt) ∧ TS D cA L T r ry ([] : List (Nat × Nat)) σ σ_13 ρ_14 H ∧ va_S (dm L s.heap.size) s.heap H locs ∧ lv_has ls 6 [(5, .int i_12), (4, .int i_11), (3, .int i_1), (0, .ref h0), (1, .int p1), (2, .int p2)]) (fun (i_11, i_12, σ_13, ρ_14) => (400 - i_12.toInt).toNat) ?_ ⟨i_2, p1, σ_3, ρ_8⟩ ⟨(by omega), (by omega), (by omega), (by omega), (by omega), hB, hS, lv_sub hl [0, 1, 2, 3, 4, 5] rfl⟩
    rintro ⟨i_11, i_12, σ_13, ρ_14⟩ H locs ls ⟨li_11, ui_11, li_12, ui_12, g_16, hB, hS, hl⟩ ih_15
    refine lv_iload hx hb dX9_wordOf_18 (lv_at hl 0 rfl) ?_
    refine lv_iload_n hx hb dX9_wordOf_20 rfl (lv_at hl 5 rfl) ?_
    refine lv_icmp_ge (tgt := 60) hx hb dX9_wordOf_21 (by decide) (fun c_17 => ?_) (fun c_17 => ?_)
    · skip
      have uc_17 := j_le c_17
      refine lv_iload hx hb dX9_wordOf_60 (lv_at hl 0 rfl) ?_
      refine lv_iload_n hx hb dX9_wordOf_62 rfl (lv_at hl 5 rfl) ?_
      refine lv_icmp_ne (tgt := 90) hx hb dX9_wordOf_63 (by decide) (fun c_18 => ?_) (fun c_18 => ?_)
      · skip
        have uc_18 := j_ne c_18
        refine w_loop (α := Int32 × Sg × Lg) (fun (i_19, σ_20, ρ_21) H locs ls => 0 ≤ i_19.toInt ∧ i_19.toInt ≤ 95 ∧ (i_2.toInt ≤ i_19.toInt) ∧ TS D cA L T r ry ([] : List (Nat × Nat)) σ σ_20 ρ_21 H ∧ va_S (dm L s.heap.size) s.heap H locs ∧ lv_has ls 6 [(5, .int i_12), (4, .int i_19), (3, .int i_1), (0, .ref h0), (1, .int p1), (2, .int p2)]) (fun (i_19, σ_20, ρ_21) => (96 - i_19.toInt).toNat) ?_ ⟨i_11, σ_13, ρ_14⟩ ⟨(by omega), (by omega), (by omega), hB, hS, lv_sub hl [0, 1, 2, 3, 4, 5] rfl⟩
        rintro ⟨i_19, σ_20, ρ_21⟩ H locs ls ⟨li_19, ui_19, g_23, hB, hS, hl⟩ ih_22
        refine lv_iload hx hb dX9_wordOf_90 (lv_at hl 1 rfl) ?_
        refine va_ldcS hx hb hown hV.2.2.2.1 dX9_wordOf_92 ?_
        refine t_ci (va_runV (As := []) (rest := [.int i_19]) ⟨hx, hb, hml, hown, hts⟩ (cs_J0_length_8abf5_0 l D cA L T r hG hLA.1 σ_20 ρ_21 hB.2.1 _ adK adV ) (cV hts mv_J0_length_8abf5 mw_3_51 rfl rfl ⟨Nat.le_of_ble_eq_true rfl, Nat.le_of_ble_eq_true rfl⟩) (pK hB.1 hK hN (hV.to hS) (i := 0) (by decide)) rfl rfl hl.1 rfl (lv_room (Nat.le_of_ble_eq_true rfl)) dX9_wordOf_94 ⟨Nat.le_of_ble_eq_true rfl, Nat.le_of_ble_eq_true rfl⟩) hLA hA hB hS (by decide) (fun x_26 σ_24 ρ_25 H locs hB fσ_24 pσ_24 hS => ?_)
        have qσ_24 := FR.nil fσ_24
        subst qσ_24
        subst pσ_24
        refine lv_icmp_ge (tgt := 118) hx hb dX9_wordOf_97 (by decide) (fun c_27 => ?_) (fun c_27 => ?_)
        · skip
          have uc_27 := i_ge (n := 95) (by decide) c_27
          obtain ⟨x_28, ex_28⟩ : ∃ y : Int32, y = i_19 + 1 := ⟨_, rfl⟩
          have vx_28 := b_add (rfl : i_19.toInt = _) (by decide : (1 : Int32).toInt = 1) ex_28 (by omega) (by omega)
          refine lv_iinc (v := x_28) (lv' := [(4, .int x_28), (5, .int i_12), (3, .int i_1), (0, .ref h0), (1, .int p1), (2, .int p2)]) hx hb dX9_wordOf_118 hl (k := 1) rfl (by rw [ex_28]; rfl) (by decide) rfl (fun ls hl => ?_)
          obtain ⟨x_29, ex_29⟩ : ∃ y : Int32, y = i_1 + 1 := ⟨_, rfl⟩
          have vx_29 := b_add (rfl : i_1.toInt = _) (by decide : (1 : Int32).toInt = 1) ex_29 (by omega) (by omega)
          refine lv_iinc (v := x_29) (lv' := [(3, .int x_29), (4, .int x_28), (5, .int i_12), (0, .ref h0), (1, .int p1), (2, .int p2)]) hx hb dX9_wordOf_121 hl (k := 2) rfl (by rw [ex_29]; rfl) (by decide) rfl (fun ls hl => ?_)
          refine lv_goto (tgt := 5) hx hb dX9_wordOf_124 (by decide) ?_
          exact ih_5 ⟨x_29, x_28, σ_20, ρ_25⟩ _ _ _ ⟨(by omega), (by omega), (by omega), (by omega), (by first | decide | omega), hB, hS, lv_sub hl [1, 0, 3, 4, 5] rfl⟩ (by show (96 - x_28.toInt).toNat < (96 - i_2.toInt).toNat; omega)
        · skip
          have uc_27 := i_nge (n := 95) (by decide) c_27
          refine va_ldcS hx hb hown hV.2.2.2.1 dX9_wordOf_100 ?_
          refine lv_iload hx hb dX9_wordOf_102 (lv_at hl 1 rfl) ?_
          refine t_ci (va_runV (As := [.int i_19]) (rest := []) ⟨hx, hb, hml, hown, hts⟩ (cs_J0_charAt_5068e_0 l D cA L T r hG hLA.1 σ_20 ρ_25 hB.2.1 _ adK adV i_19 (by first | omega | decide) (by first | omega | decide)) (cV hts mv_J0_charAt_5068e mw_3_61 rfl rfl ⟨Nat.le_of_ble_eq_true rfl, Nat.le_of_ble_eq_true rfl⟩) (pK hB.1 hK hN (hV.to hS) (i := 0) (by decide)) rfl rfl hl.1 rfl (lv_room (Nat.le_of_ble_eq_true rfl)) dX9_wordOf_104 ⟨Nat.le_of_ble_eq_true rfl, Nat.le_of_ble_eq_true rfl⟩) hLA hA hB hS (by decide) (fun x_32 σ_30 ρ_31 H locs hB fσ_30 pσ_30 hS => ?_)
          have qσ_30 := FR.nil fσ_30
          subst qσ_30
          obtain ⟨lx_32, ux_32⟩ := pσ_30
          refine lv_bipush (v := 32) hx hb dX9_wordOf_107 (by decide) ?_
          refine lv_icmp_eq (tgt := 118) hx hb dX9_wordOf_109 (by decide) (fun c_33 => ?_) (fun c_33 => ?_)
          · skip
            have uc_33 := i_eq (n := 32) (by decide) c_33
            obtain ⟨x_34, ex_34⟩ : ∃ y : Int32, y = i_19 + 1 := ⟨_, rfl⟩
            have vx_34 := b_add (rfl : i_19.toInt = _) (by decide : (1 : Int32).toInt = 1) ex_34 (by omega) (by omega)
            refine lv_iinc (v := x_34) (lv' := [(4, .int x_34), (5, .int i_12), (3, .int i_1), (0, .ref h0), (1, .int p1), (2, .int p2)]) hx hb dX9_wordOf_118 hl (k := 1) rfl (by rw [ex_34]; rfl) (by decide) rfl (fun ls hl => ?_)
            obtain ⟨x_35, ex_35⟩ : ∃ y : Int32, y = i_1 + 1 := ⟨_, rfl⟩
            have vx_35 := b_add (rfl : i_1.toInt = _) (by decide : (1 : Int32).toInt = 1) ex_35 (by omega) (by omega)
            refine lv_iinc (v := x_35) (lv' := [(3, .int x_35), (4, .int x_34), (5, .int i_12), (0, .ref h0), (1, .int p1), (2, .int p2)]) hx hb dX9_wordOf_121 hl (k := 2) rfl (by rw [ex_35]; rfl) (by decide) rfl (fun ls hl => ?_)
            refine lv_goto (tgt := 5) hx hb dX9_wordOf_124 (by decide) ?_
            exact ih_5 ⟨x_35, x_34, σ_20, ρ_31⟩ _ _ _ ⟨(by omega), (by omega), (by omega), (by omega), (by first | decide | omega), hB, hS, lv_sub hl [1, 0, 3, 4, 5] rfl⟩ (by show (96 - x_34.toInt).toNat < (96 - i_2.toInt).toNat; omega)
          · skip
            have uc_33 := i_ne (n := 32) (by decide) c_33
            obtain ⟨x_36, ex_36⟩ : ∃ y : Int32, y = i_19 + 1 := ⟨_, rfl⟩
            have vx_36 := b_add (rfl : i_19.toInt = _) (by decide : (1 : Int32).toInt = 1) ex_36 (by omega) (by omega)
            refine lv_iinc (v := x_36) (lv' := [(4, .int x_36), (5, .int i_12), (3, .int i_1), (0, .ref h0), (1, .int p1), (2, .int p2)]) hx hb dX9_wordOf_112 hl (k := 1) rfl (by rw [ex_36]; rfl) (by decide) rfl (fun ls hl => ?_)
            refine lv_goto (tgt := 90) hx hb dX9_wordOf_115 (by decide) ?_
            exact ih_22 ⟨x_36, σ_20, ρ_31⟩ _ _ _ ⟨(by omega), (by omega), (by omega), hB, hS, lv_sub hl [1, 0, 2, 3, 4, 5] rfl⟩ (by show (96 - x_36.toInt).toNat < (96 - i_19.toInt).toNat; omega)
      · skip
        have uc_18 := j_eq c_18
        refine lv_iload hx hb dX9_wordOf_66 (lv_at hl 1 rfl) ?_
        refine va_ldcS hx hb hown hV.2.2.2.1 dX9_wordOf_68 ?_
        refine t_ci (va_runV (As := []) (rest := [.int i_11]) ⟨hx, hb, hml, hown, hts⟩ (cs_J0_length_8abf5_0 l D cA L T r hG hLA.1 σ_13 ρ_14 hB.2.1 _ adK adV ) (cV hts mv_J0_length_8abf5 mw_3_51 rfl rfl ⟨Nat.le_of_ble_eq_true rfl, Nat.le_of_ble_eq_true rfl⟩) (pK hB.1 hK hN (hV.to hS) (i := 0) (by decide)) rfl rfl hl.1 rfl (lv_room (Nat.le_of_ble_eq_true rfl)) dX9_wordOf_70 ⟨Nat.le_of_ble_eq_true rfl, Nat.le_of_ble_eq_true rfl⟩) hLA hA hB hS (by decide) (fun x_39 σ_37 ρ_38 H locs hB fσ_37 pσ_37 hS => ?_)
        have qσ_37 := FR.nil fσ_37
        subst qσ_37
        subst pσ_37
        refine lv_icmp_ge (tgt := 88) hx hb dX9_wordOf_73 (by decide) (fun c_40 => ?_) (fun c_40 => ?_)
        · skip
          have uc_40 := i_ge (n := 95) (by decide) c_40
          refine lv_iload_n hx hb dX9_wordOf_88 rfl (lv_at hl 2 rfl) ?_
          exact W.iret (v := i_1) hx hb hr (fun t ht hW => ⟨⟨i_1, (σ_13, ρ_38), rfl, ⟨hB.2.1, hB.2.2, (show (-1) ≤ (i_1 : Int32).toInt ∧ (i_1 : Int32).toInt ≤ 96 from ⟨by omega, by omega⟩)⟩, (show TP D cA L T r σ_13 ρ_38 t.heap from by rw [ht]; exact hB.1)⟩, hS.F ht⟩) hS.2.2 dX9_wordOf_89
        · skip
          have uc_40 := i_nge (n := 95) (by decide) c_40
          refine va_ldcS hx hb hown hV.2.2.2.1 dX9_wordOf_76 ?_
          refine lv_iload hx hb dX9_wordOf_78 (lv_at hl 1 rfl) ?_
          refine t_ci (va_runV (As := [.int i_11]) (rest := []) ⟨hx, hb, hml, hown, hts⟩ (cs_J0_charAt_5068e_0 l D cA L T r hG hLA.1 σ_13 ρ_38 hB.2.1 _ adK adV i_11 (by first | omega | decide) (by first | omega | decide)) (cV hts mv_J0_charAt_5068e mw_3_61 rfl rfl ⟨Nat.le_of_ble_eq_true rfl, Nat.le_of_ble_eq_true rfl⟩) (pK hB.1 hK hN (hV.to hS) (i := 0) (by decide)) rfl rfl hl.1 rfl (lv_room (Nat.le_of_ble_eq_true rfl)) dX9_wordOf_80 ⟨Nat.le_of_ble_eq_true rfl, Nat.le_of_ble_eq_true rfl⟩) hLA hA hB hS (by decide) (fun x_43 σ_41 ρ_42 H locs hB fσ_41 pσ_41 hS => ?_)
          have qσ_41 := FR.nil fσ_41
          subst qσ_41
          obtain ⟨lx_43, ux_43⟩ := pσ_41
          refine lv_bipush (v := 32) hx hb dX9_wordOf_83 (by decide) ?_
          refine lv_icmp_ne (tgt := 90) hx hb dX9_wordOf_85 (by decide) (fun c_44 => ?_) (fun c_44 => ?_)
          · skip
            have uc_44 := i_ne (n := 32) (by decide) c_44
            refine w_loop (α := Int32 × Sg × Lg) (fun (i_45, σ_46, ρ_47) H locs ls => 0 ≤ i_45.toInt ∧ i_45.toInt ≤ 95 ∧ (i_2.toInt ≤ i_45.toInt) ∧ TS D cA L T r ry ([] : List (Nat × Nat)) σ σ_46 ρ_47 H ∧ va_S (dm L s.heap.size) s.heap H locs ∧ lv_has ls 6 [(5, .int i_12), (4, .int i_45), (3, .int i_1), (0, .ref h0), (1, .int p1), (2, .int p2)]) (fun (i_45, σ_46, ρ_47) => (96 - i_45.toInt).toNat) ?_ ⟨i_11, σ_13, ρ_42⟩ ⟨(by omega), (by omega), (by omega), hB, hS, lv_sub hl [0, 1, 2, 3, 4, 5] rfl⟩
            rintro ⟨i_45, σ_46, ρ_47⟩ H locs ls ⟨li_45, ui_45, g_49, hB, hS, hl⟩ ih_48
            refine lv_iload hx hb dX9_wordOf_90 (lv_at hl 1 rfl) ?_
            refine va_ldcS hx hb hown hV.2.2.2.1 dX9_wordOf_92 ?_
            refine t_ci (va_runV (As := []) (rest := [.int i_45]) ⟨hx, hb, hml, hown, hts⟩ (cs_J0_length_8abf5_0 l D cA L T r hG hLA.1 σ_46 ρ_47 hB.2.1 _ adK adV ) (cV hts mv_J0_length_8abf5 mw_3_51 rfl rfl ⟨Nat.le_of_ble_eq_true rfl, Nat.le_of_ble_eq_true rfl⟩) (pK hB.1 hK hN (hV.to hS) (i := 0) (by decide)) rfl rfl hl.1 rfl (lv_room (Nat.le_of_ble_eq_true rfl)) dX9_wordOf_94 ⟨Nat.le_of_ble_eq_true rfl, Nat.le_of_ble_eq_true rfl⟩) hLA hA hB hS (by decide) (fun x_52 σ_50 ρ_51 H locs hB fσ_50 pσ_50 hS => ?_)
            have qσ_50 := FR.nil fσ_50
            subst qσ_50
            subst pσ_50
            refine lv_icmp_ge (tgt := 118) hx hb dX9_wordOf_97 (by decide) (fun c_53 => ?_) (fun c_53 => ?_)
            · skip
              have uc_53 := i_ge (n := 95) (by decide) c_53
              obtain ⟨x_54, ex_54⟩ : ∃ y : Int32, y = i_45 + 1 := ⟨_, rfl⟩
              have vx_54 := b_add (rfl : i_45.toInt = _) (by decide : (1 : Int32).toInt = 1) ex_54 (by omega) (by omega)
              refine lv_iinc (v := x_54) (lv' := [(4, .int x_54), (5, .int i_12), (3, .int i_1), (0, .ref h0), (1, .int p1), (2, .int p2)]) hx hb dX9_wordOf_118 hl (k := 1) rfl (by rw [ex_54]; rfl) (by decide) rfl (fun ls hl => ?_)
              obtain ⟨x_55, ex_55⟩ : ∃ y : Int32, y = i_1 + 1 := ⟨_, rfl⟩
              have vx_55 := b_add (rfl : i_1.toInt = _) (by decide : (1 : Int32).toInt = 1) ex_55 (by omega) (by omega)
              refine lv_iinc (v := x_55) (lv' := [(3, .int x_55), (4, .int x_54), (5, .int i_12), (0, .ref h0), (1, .int p1), (2, .int p2)]) hx hb dX9_wordOf_121 hl (k := 2) rfl (by rw [ex_55]; rfl) (by decide) rfl (fun ls hl => ?_)
              refine lv_goto (tgt := 5) hx hb dX9_wordOf_124 (by decide) ?_
              exact ih_5 ⟨x_55, x_54, σ_46, ρ_51⟩ _ _ _ ⟨(by omega), (by omega), (by omega), (by omega), (by first | decide | omega), hB, hS, lv_sub hl [1, 0, 3, 4, 5] rfl⟩ (by show (96 - x_54.toInt).toNat < (96 - i_2.toInt).toNat; omega)
            · skip
              have uc_53 := i_nge (n := 95) (by decide) c_53
              refine va_ldcS hx hb hown hV.2.2.2.1 dX9_wordOf_100 ?_
              refine lv_iload hx hb dX9_wordOf_102 (lv_at hl 1 rfl) ?_
              refine t_ci (va_runV (As := [.int i_45]) (rest := []) ⟨hx, hb, hml, hown, hts⟩ (cs_J0_charAt_5068e_0 l D cA L T r hG hLA.1 σ_46 ρ_51 hB.2.1 _ adK adV i_45 (by first | omega | decide) (by first | omega | decide)) (cV hts mv_J0_charAt_5068e mw_3_61 rfl rfl ⟨Nat.le_of_ble_eq_true rfl, Nat.le_of_ble_eq_true rfl⟩) (pK hB.1 hK hN (hV.to hS) (i := 0) (by decide)) rfl rfl hl.1 rfl (lv_room (Nat.le_of_ble_eq_true rfl)) dX9_wordOf_104 ⟨Nat.le_of_ble_eq_true rfl, Nat.le_of_ble_eq_true rfl⟩) hLA hA hB hS (by decide) (fun x_58 σ_56 ρ_57 H locs hB fσ_56 pσ_56 hS => ?_)
              have qσ_56 := FR.nil fσ_56
              subst qσ_56
              obtain ⟨lx_58, ux_58⟩ := pσ_56
              refine lv_bipush (v := 32) hx hb dX9_wordOf_107 (by decide) ?_
              refine lv_icmp_eq (tgt := 118) hx hb dX9_wordOf_109 (by decide) (fun c_59 => ?_) (fun c_59 => ?_)
              · skip
                have uc_59 := i_eq (n := 32) (by decide) c_59
                obtain ⟨x_60, ex_60⟩ : ∃ y : Int32, y = i_45 + 1 := ⟨_, rfl⟩
                have vx_60 := b_add (rfl : i_45.toInt = _) (by decide : (1 : Int32).toInt = 1) ex_60 (by omega) (by omega)
                refine lv_iinc (v := x_60) (lv' := [(4, .int x_60), (5, .int i_12), (3, .int i_1), (0, .ref h0), (1, .int p1), (2, .int p2)]) hx hb dX9_wordOf_118 hl (k := 1) rfl (by rw [ex_60]; rfl) (by decide) rfl (fun ls hl => ?_)
                obtain ⟨x_61, ex_61⟩ : ∃ y : Int32, y = i_1 + 1 := ⟨_, rfl⟩
                have vx_61 := b_add (rfl : i_1.toInt = _) (by decide : (1 : Int32).toInt = 1) ex_61 (by omega) (by omega)
                refine lv_iinc (v := x_61) (lv' := [(3, .int x_61), (4, .int x_60), (5, .int i_12), (0, .ref h0), (1, .int p1), (2, .int p2)]) hx hb dX9_wordOf_121 hl (k := 2) rfl (by rw [ex_61]; rfl) (by decide) rfl (fun ls hl => ?_)
                refine lv_goto (tgt := 5) hx hb dX9_wordOf_124 (by decide) ?_
                exact ih_5 ⟨x_61, x_60, σ_46, ρ_57⟩ _ _ _ ⟨(by omega), (by omega), (by omega), (by omega), (by first | decide | omega), hB, hS, lv_sub hl [1, 0, 3, 4, 5] rfl⟩ (by show (96 - x_60.toInt).toNat < (96 - i_2.toInt).toNat; omega)
              · skip
                have uc_59 := i_ne (n := 32) (by decide) c_59
                obtain ⟨x_62, ex_62⟩ : ∃ y : Int32, y = i_45 + 1 := ⟨_, rfl⟩
                have vx_62 := b_add (rfl : i_45.toInt = _) (by decide : (1 : Int32).toInt = 1) ex_62 (by omega) (by omega)
                refine lv_iinc (v := x_62) (lv' := [(4, .int x_62), (5, .int i_12), (3, .int i_1), (0, .ref h0), (1, .int p1), (2, .int p2)]) hx hb dX9_wordOf_112 hl (k := 1) rfl (by rw [ex_62]; rfl) (by decide) rfl (fun ls hl => ?_)
                refine lv_goto (tgt := 90) hx hb dX9_wordOf_115 (by decide) ?_
                exact ih_48 ⟨x_62, σ_46, ρ_57⟩ _ _ _ ⟨(by omega), (by omega), (by omega), hB, hS, lv_sub hl [1, 0, 2, 3, 4, 5] rfl⟩ (by show (96 - x_62.toInt).toNat < (96 - i_45.toInt).toNat; omega)
          · skip
            have uc_44 := i_eq (n := 32) (by decide) c_44
            refine lv_iload_n hx hb dX9_wordOf_88 rfl (lv_at hl 2 rfl) ?_
            exact W.iret (v := i_1) hx hb hr (fun t ht hW => ⟨⟨i_1, (σ_13, ρ_42), rfl, ⟨hB.2.1, hB.2.2, (show (-1) ≤ (i_1 : Int32).toInt ∧ (i_1 : Int32).toInt ≤ 96 from ⟨by omega, by omega⟩)⟩, (show TP D cA L T r σ_13 ρ_42 t.heap from by rw [ht]; exact hB.1)⟩, hS.F ht⟩) hS.2.2 dX9_wordOf_89
    · skip
      have uc_17 := j_nle c_17
      refine lv_iload hx hb dX9_wordOf_24 (lv_at hl 1 rfl) ?_
      refine va_ldcS hx hb hown hV.2.2.2.1 dX9_wordOf_26 ?_
      refine t_ci (va_runV (As := []) (rest := [.int i_11]) ⟨hx, hb, hml, hown, hts⟩ (cs_J0_length_8abf5_0 l D cA L T r hG hLA.1 σ_13 ρ_14 hB.2.1 _ adK adV ) (cV hts mv_J0_length_8abf5 mw_3_51 rfl rfl ⟨Nat.le_of_ble_eq_true rfl, Nat.le_of_ble_eq_true rfl⟩) (pK hB.1 hK hN (hV.to hS) (i := 0) (by decide)) rfl rfl hl.1 rfl (lv_room (Nat.le_of_ble_eq_true rfl)) dX9_wordOf_28 ⟨Nat.le_of_ble_eq_true rfl, Nat.le_of_ble_eq_true rfl⟩) hLA hA hB hS (by decide) (fun x_65 σ_63 ρ_64 H locs hB fσ_63 pσ_63 hS => ?_)
      have qσ_63 := FR.nil fσ_63
      subst qσ_63
      subst pσ_63
      refine lv_icmp_ge (tgt := 60) hx hb dX9_wordOf_31 (by decide) (fun c_66 => ?_) (fun c_66 => ?_)
      · skip
        have uc_66 := i_ge (n := 95) (by decide) c_66
        refine lv_iload hx hb dX9_wordOf_60 (lv_at hl 0 rfl) ?_
        refine lv_iload_n hx hb dX9_wordOf_62 rfl (lv_at hl 5 rfl) ?_
        refine lv_icmp_ne (tgt := 90) hx hb dX9_wordOf_63 (by decide) (fun c_67 => ?_) (fun c_67 => ?_)
        · skip
          have uc_67 := j_ne c_67
          refine w_loop (α := Int32 × Sg × Lg) (fun (i_68, σ_69, ρ_70) H locs ls => 0 ≤ i_68.toInt ∧ i_68.toInt ≤ 95 ∧ (i_2.toInt ≤ i_68.toInt) ∧ TS D cA L T r ry ([] : List (Nat × Nat)) σ σ_69 ρ_70 H ∧ va_S (dm L s.heap.size) s.heap H locs ∧ lv_has ls 6 [(5, .int i_12), (4, .int i_68), (3, .int i_1), (0, .ref h0), (1, .int p1), (2, .int p2)]) (fun (i_68, σ_69, ρ_70) => (96 - i_68.toInt).toNat) ?_ ⟨i_11, σ_13, ρ_64⟩ ⟨(by omega), (by omega), (by omega), hB, hS, lv_sub hl [0, 1, 2, 3, 4, 5] rfl⟩
          rintro ⟨i_68, σ_69, ρ_70⟩ H locs ls ⟨li_68, ui_68, g_72, hB, hS, hl⟩ ih_71
          refine lv_iload hx hb dX9_wordOf_90 (lv_at hl 1 rfl) ?_
          refine va_ldcS hx hb hown hV.2.2.2.1 dX9_wordOf_92 ?_
          refine t_ci (va_runV (As := []) (rest := [.int i_68]) ⟨hx, hb, hml, hown, hts⟩ (cs_J0_length_8abf5_0 l D cA L T r hG hLA.1 σ_69 ρ_70 hB.2.1 _ adK adV ) (cV hts mv_J0_length_8abf5 mw_3_51 rfl rfl ⟨Nat.le_of_ble_eq_true rfl, Nat.le_of_ble_eq_true rfl⟩) (pK hB.1 hK hN (hV.to hS) (i := 0) (by decide)) rfl rfl hl.1 rfl (lv_room (Nat.le_of_ble_eq_true rfl)) dX9_wordOf_94 ⟨Nat.le_of_ble_eq_true rfl, Nat.le_of_ble_eq_true rfl⟩) hLA hA hB hS (by decide) (fun x_75 σ_73 ρ_74 H locs hB fσ_73 pσ_73 hS => ?_)
          have qσ_73 := FR.nil fσ_73
          subst qσ_73
          subst pσ_73
          refine lv_icmp_ge (tgt := 118) hx hb dX9_wordOf_97 (by decide) (fun c_76 => ?_) (fun c_76 => ?_)
          · skip
            have uc_76 := i_ge (n := 95) (by decide) c_76
            obtain ⟨x_77, ex_77⟩ : ∃ y : Int32, y = i_68 + 1 := ⟨_, rfl⟩
            have vx_77 := b_add (rfl : i_68.toInt = _) (by decide : (1 : Int32).toInt = 1) ex_77 (by omega) (by omega)
            refine lv_iinc (v := x_77) (lv' := [(4, .int x_77), (5, .int i_12), (3, .int i_1), (0, .ref h0), (1, .int p1), (2, .int p2)]) hx hb dX9_wordOf_118 hl (k := 1) rfl (by rw [ex_77]; rfl) (by decide) rfl (fun ls hl => ?_)
            obtain ⟨x_78, ex_78⟩ : ∃ y : Int32, y = i_1 + 1 := ⟨_, rfl⟩
            have vx_78 := b_add (rfl : i_1.toInt = _) (by decide : (1 : Int32).toInt = 1) ex_78 (by omega) (by omega)
            refine lv_iinc (v := x_78) (lv' := [(3, .int x_78), (4, .int x_77), (5, .int i_12), (0, .ref h0), (1, .int p1), (2, .int p2)]) hx hb dX9_wordOf_121 hl (k := 2) rfl (by rw [ex_78]; rfl) (by decide) rfl (fun ls hl => ?_)
            refine lv_goto (tgt := 5) hx hb dX9_wordOf_124 (by decide) ?_
            exact ih_5 ⟨x_78, x_77, σ_69, ρ_74⟩ _ _ _ ⟨(by omega), (by omega), (by omega), (by omega), (by first | decide | omega), hB, hS, lv_sub hl [1, 0, 3, 4, 5] rfl⟩ (by show (96 - x_77.toInt).toNat < (96 - i_2.toInt).toNat; omega)
          · skip
            have uc_76 := i_nge (n := 95) (by decide) c_76
            refine va_ldcS hx hb hown hV.2.2.2.1 dX9_wordOf_100 ?_
            refine lv_iload hx hb dX9_wordOf_102 (lv_at hl 1 rfl) ?_
            refine t_ci (va_runV (As := [.int i_68]) (rest := []) ⟨hx, hb, hml, hown, hts⟩ (cs_J0_charAt_5068e_0 l D cA L T r hG hLA.1 σ_69 ρ_74 hB.2.1 _ adK adV i_68 (by first | omega | decide) (by first | omega | decide)) (cV hts mv_J0_charAt_5068e mw_3_61 rfl rfl ⟨Nat.le_of_ble_eq_true rfl, Nat.le_of_ble_eq_true rfl⟩) (pK hB.1 hK hN (hV.to hS) (i := 0) (by decide)) rfl rfl hl.1 rfl (lv_room (Nat.le_of_ble_eq_true rfl)) dX9_wordOf_104 ⟨Nat.le_of_ble_eq_true rfl, Nat.le_of_ble_eq_true rfl⟩) hLA hA hB hS (by decide) (fun x_81 σ_79 ρ_80 H locs hB fσ_79 pσ_79 hS => ?_)
            have qσ_79 := FR.nil fσ_79
            subst qσ_79
            obtain ⟨lx_81, ux_81⟩ := pσ_79
            refine lv_bipush (v := 32) hx hb dX9_wordOf_107 (by decide) ?_
            refine lv_icmp_eq (tgt := 118) hx hb dX9_wordOf_109 (by decide) (fun c_82 => ?_) (fun c_82 => ?_)
            · skip
              have uc_82 := i_eq (n := 32) (by decide) c_82
              obtain ⟨x_83, ex_83⟩ : ∃ y : Int32, y = i_68 + 1 := ⟨_, rfl⟩
              have vx_83 := b_add (rfl : i_68.toInt = _) (by decide : (1 : Int32).toInt = 1) ex_83 (by omega) (by omega)
              refine lv_iinc (v := x_83) (lv' := [(4, .int x_83), (5, .int i_12), (3, .int i_1), (0, .ref h0), (1, .int p1), (2, .int p2)]) hx hb dX9_wordOf_118 hl (k := 1) rfl (by rw [ex_83]; rfl) (by decide) rfl (fun ls hl => ?_)
              obtain ⟨x_84, ex_84⟩ : ∃ y : Int32, y = i_1 + 1 := ⟨_, rfl⟩
              have vx_84 := b_add (rfl : i_1.toInt = _) (by decide : (1 : Int32).toInt = 1) ex_84 (by omega) (by omega)
              refine lv_iinc (v := x_84) (lv' := [(3, .int x_84), (4, .int x_83), (5, .int i_12), (0, .ref h0), (1, .int p1), (2, .int p2)]) hx hb dX9_wordOf_121 hl (k := 2) rfl (by rw [ex_84]; rfl) (by decide) rfl (fun ls hl => ?_)
              refine lv_goto (tgt := 5) hx hb dX9_wordOf_124 (by decide) ?_
              exact ih_5 ⟨x_84, x_83, σ_69, ρ_80⟩ _ _ _ ⟨(by omega), (by omega), (by omega), (by omega), (by first | decide | omega), hB, hS, lv_sub hl [1, 0, 3, 4, 5] rfl⟩ (by show (96 - x_83.toInt).toNat < (96 - i_2.toInt).toNat; omega)
            · skip
              have uc_82 := i_ne (n := 32) (by decide) c_82
              obtain ⟨x_85, ex_85⟩ : ∃ y : Int32, y = i_68 + 1 := ⟨_, rfl⟩
              have vx_85 := b_add (rfl : i_68.toInt = _) (by decide : (1 : Int32).toInt = 1) ex_85 (by omega) (by omega)
              refine lv_iinc (v := x_85) (lv' := [(4, .int x_85), (5, .int i_12), (3, .int i_1), (0, .ref h0), (1, .int p1), (2, .int p2)]) hx hb dX9_wordOf_112 hl (k := 1) rfl (by rw [ex_85]; rfl) (by decide) rfl (fun ls hl => ?_)
              refine lv_goto (tgt := 90) hx hb dX9_wordOf_115 (by decide) ?_
              exact ih_71 ⟨x_85, σ_69, ρ_80⟩ _ _ _ ⟨(by omega), (by omega), (by omega), hB, hS, lv_sub hl [1, 0, 2, 3, 4, 5] rfl⟩ (by show (96 - x_85.toInt).toNat < (96 - i_68.toInt).toNat; omega)
        · skip
          have uc_67 := j_eq c_67
          refine lv_iload hx hb dX9_wordOf_66 (lv_at hl 1 rfl) ?_
          refine va_ldcS hx hb hown hV.2.2.2.1 dX9_wordOf_68 ?_
          refine t_ci (va_runV (As := []) (rest := [.int i_11]) ⟨hx, hb, hml, hown, hts⟩ (cs_J0_length_8abf5_0 l D cA L T r hG hLA.1 σ_13 ρ_64 hB.2.1 _ adK adV ) (cV hts mv_J0_length_8abf5 mw_3_51 rfl rfl ⟨Nat.le_of_ble_eq_true rfl, Nat.le_of_ble_eq_true rfl⟩) (pK hB.1 hK hN (hV.to hS) (i := 0) (by decide)) rfl rfl hl.1 rfl (lv_room (Nat.le_of_ble_eq_true rfl)) dX9_wordOf_70 ⟨Nat.le_of_ble_eq_true rfl, Nat.le_of_ble_eq_true rfl⟩) hLA hA hB hS (by decide) (fun x_88 σ_86 ρ_87 H locs hB fσ_86 pσ_86 hS => ?_)
          have qσ_86 := FR.nil fσ_86
          subst qσ_86
          subst pσ_86
          refine lv_icmp_ge (tgt := 88) hx hb dX9_wordOf_73 (by decide) (fun c_89 => ?_) (fun c_89 => ?_)
          · skip
            have uc_89 := i_ge (n := 95) (by decide) c_89
            refine lv_iload_n hx hb dX9_wordOf_88 rfl (lv_at hl 2 rfl) ?_
            exact W.iret (v := i_1) hx hb hr (fun t ht hW => ⟨⟨i_1, (σ_13, ρ_87), rfl, ⟨hB.2.1, hB.2.2, (show (-1) ≤ (i_1 : Int32).toInt ∧ (i_1 : Int32).toInt ≤ 96 from ⟨by omega, by omega⟩)⟩, (show TP D cA L T r σ_13 ρ_87 t.heap from by rw [ht]; exact hB.1)⟩, hS.F ht⟩) hS.2.2 dX9_wordOf_89
          · skip
            have uc_89 := i_nge (n := 95) (by decide) c_89
            exfalso; omega
      · skip
        have uc_66 := i_nge (n := 95) (by decide) c_66
        refine va_ldcS hx hb hown hV.2.2.2.1 dX9_wordOf_34 ?_
        refine lv_iload hx hb dX9_wordOf_36 (lv_at hl 1 rfl) ?_
        refine t_ci (va_runV (As := [.int i_11]) (rest := []) ⟨hx, hb, hml, hown, hts⟩ (cs_J0_charAt_5068e_0 l D cA L T r hG hLA.1 σ_13 ρ_64 hB.2.1 _ adK adV i_11 (by first | omega | decide) (by first | omega | decide)) (cV hts mv_J0_charAt_5068e mw_3_61 rfl rfl ⟨Nat.le_of_ble_eq_true rfl, Nat.le_of_ble_eq_true rfl⟩) (pK hB.1 hK hN (hV.to hS) (i := 0) (by decide)) rfl rfl hl.1 rfl (lv_room (Nat.le_of_ble_eq_true rfl)) dX9_wordOf_38 ⟨Nat.le_of_ble_eq_true rfl, Nat.le_of_ble_eq_true rfl⟩) hLA hA hB hS (by decide) (fun x_92 σ_90 ρ_91 H locs hB fσ_90 pσ_90 hS => ?_)
        have qσ_90 := FR.nil fσ_90
        subst qσ_90
        obtain ⟨lx_92, ux_92⟩ := pσ_90
        refine lv_aload_n hx hb dX9_wordOf_41 rfl (lv_at hl 3 rfl) ?_
        refine t_gr hx hb hts hown hK hG hB mh0 th0 fq_9_0 rfl mw_1_36 dX9_wordOf_42 (fun b_93 hb_93 mb_93 tb_93 => ?_)
        refine lv_iload hx hb dX9_wordOf_45 (lv_at hl 0 rfl) ?_
        refine t_ai hx hb hK hB mb_93 tb_93 ai_51 (fun _ => rfl) (i_in (by omega) (by omega)) dX9_wordOf_47 (fun x_94 ex_94 lx_94 ux_94 => ?_)
        have cx_94 := congrArg Int32.toInt ex_94
        refine lv_icmp_ne (tgt := 60) hx hb dX9_wordOf_48 (by decide) (fun c_95 => ?_) (fun c_95 => ?_)
        · skip
          have uc_95 := j_ne c_95
          refine lv_iload hx hb dX9_wordOf_60 (lv_at hl 0 rfl) ?_
          refine lv_iload_n hx hb dX9_wordOf_62 rfl (lv_at hl 5 rfl) ?_
          refine lv_icmp_ne (tgt := 90) hx hb dX9_wordOf_63 (by decide) (fun c_96 => ?_) (fun c_96 => ?_)
          · skip
            have uc_96 := j_ne c_96
            refine w_loop (α := Int32 × Sg × Lg) (fun (i_97, σ_98, ρ_99) H locs ls => 0 ≤ i_97.toInt ∧ i_97.toInt ≤ 95 ∧ (i_2.toInt ≤ i_97.toInt) ∧ TS D cA L T r ry ([] : List (Nat × Nat)) σ σ_98 ρ_99 H ∧ va_S (dm L s.heap.size) s.heap H locs ∧ lv_has ls 6 [(5, .int i_12), (4, .int i_97), (3, .int i_1), (0, .ref h0), (1, .int p1), (2, .int p2)]) (fun (i_97, σ_98, ρ_99) => (96 - i_97.toInt).toNat) ?_ ⟨i_11, σ_13, ρ_91⟩ ⟨(by omega), (by omega), (by omega), hB, hS, lv_sub hl [0, 1, 2, 3, 4, 5] rfl⟩
            rintro ⟨i_97, σ_98, ρ_99⟩ H locs ls ⟨li_97, ui_97, g_101, hB, hS, hl⟩ ih_100
            refine lv_iload hx hb dX9_wordOf_90 (lv_at hl 1 rfl) ?_
            refine va_ldcS hx hb hown hV.2.2.2.1 dX9_wordOf_92 ?_
            refine t_ci (va_runV (As := []) (rest := [.int i_97]) ⟨hx, hb, hml, hown, hts⟩ (cs_J0_length_8abf5_0 l D cA L T r hG hLA.1 σ_98 ρ_99 hB.2.1 _ adK adV ) (cV hts mv_J0_length_8abf5 mw_3_51 rfl rfl ⟨Nat.le_of_ble_eq_true rfl, Nat.le_of_ble_eq_true rfl⟩) (pK hB.1 hK hN (hV.to hS) (i := 0) (by decide)) rfl rfl hl.1 rfl (lv_room (Nat.le_of_ble_eq_true rfl)) dX9_wordOf_94 ⟨Nat.le_of_ble_eq_true rfl, Nat.le_of_ble_eq_true rfl⟩) hLA hA hB hS (by decide) (fun x_104 σ_102 ρ_103 H locs hB fσ_102 pσ_102 hS => ?_)
            have qσ_102 := FR.nil fσ_102
            subst qσ_102
            subst pσ_102
            refine lv_icmp_ge (tgt := 118) hx hb dX9_wordOf_97 (by decide) (fun c_105 => ?_) (fun c_105 => ?_)
            · skip
              have uc_105 := i_ge (n := 95) (by decide) c_105
              obtain ⟨x_106, ex_106⟩ : ∃ y : Int32, y = i_97 + 1 := ⟨_, rfl⟩
              have vx_106 := b_add (rfl : i_97.toInt = _) (by decide : (1 : Int32).toInt = 1) ex_106 (by omega) (by omega)
              refine lv_iinc (v := x_106) (lv' := [(4, .int x_106), (5, .int i_12), (3, .int i_1), (0, .ref h0), (1, .int p1), (2, .int p2)]) hx hb dX9_wordOf_118 hl (k := 1) rfl (by rw [ex_106]; rfl) (by decide) rfl (fun ls hl => ?_)
              obtain ⟨x_107, ex_107⟩ : ∃ y : Int32, y = i_1 + 1 := ⟨_, rfl⟩
              have vx_107 := b_add (rfl : i_1.toInt = _) (by decide : (1 : Int32).toInt = 1) ex_107 (by omega) (by omega)
              refine lv_iinc (v := x_107) (lv' := [(3, .int x_107), (4, .int x_106), (5, .int i_12), (0, .ref h0), (1, .int p1), (2, .int p2)]) hx hb dX9_wordOf_121 hl (k := 2) rfl (by rw [ex_107]; rfl) (by decide) rfl (fun ls hl => ?_)
              refine lv_goto (tgt := 5) hx hb dX9_wordOf_124 (by decide) ?_
              exact ih_5 ⟨x_107, x_106, σ_98, ρ_103⟩ _ _ _ ⟨(by omega), (by omega), (by omega), (by omega), (by first | decide | omega), hB, hS, lv_sub hl [1, 0, 3, 4, 5] rfl⟩ (by show (96 - x_106.toInt).toNat < (96 - i_2.toInt).toNat; omega)
            · skip
              have uc_105 := i_nge (n := 95) (by decide) c_105
              refine va_ldcS hx hb hown hV.2.2.2.1 dX9_wordOf_100 ?_
              refine lv_iload hx hb dX9_wordOf_102 (lv_at hl 1 rfl) ?_
              refine t_ci (va_runV (As := [.int i_97]) (rest := []) ⟨hx, hb, hml, hown, hts⟩ (cs_J0_charAt_5068e_0 l D cA L T r hG hLA.1 σ_98 ρ_103 hB.2.1 _ adK adV i_97 (by first | omega | decide) (by first | omega | decide)) (cV hts mv_J0_charAt_5068e mw_3_61 rfl rfl ⟨Nat.le_of_ble_eq_true rfl, Nat.le_of_ble_eq_true rfl⟩) (pK hB.1 hK hN (hV.to hS) (i := 0) (by decide)) rfl rfl hl.1 rfl (lv_room (Nat.le_of_ble_eq_true rfl)) dX9_wordOf_104 ⟨Nat.le_of_ble_eq_true rfl, Nat.le_of_ble_eq_true rfl⟩) hLA hA hB hS (by decide) (fun x_110 σ_108 ρ_109 H locs hB fσ_108 pσ_108 hS => ?_)
              have qσ_108 := FR.nil fσ_108
              subst qσ_108
              obtain ⟨lx_110, ux_110⟩ := pσ_108
              refine lv_bipush (v := 32) hx hb dX9_wordOf_107 (by decide) ?_
              refine lv_icmp_eq (tgt := 118) hx hb dX9_wordOf_109 (by decide) (fun c_111 => ?_) (fun c_111 => ?_)
              · skip
                have uc_111 := i_eq (n := 32) (by decide) c_111
                obtain ⟨x_112, ex_112⟩ : ∃ y : Int32, y = i_97 + 1 := ⟨_, rfl⟩
                have vx_112 := b_add (rfl : i_97.toInt = _) (by decide : (1 : Int32).toInt = 1) ex_112 (by omega) (by omega)
                refine lv_iinc (v := x_112) (lv' := [(4, .int x_112), (5, .int i_12), (3, .int i_1), (0, .ref h0), (1, .int p1), (2, .int p2)]) hx hb dX9_wordOf_118 hl (k := 1) rfl (by rw [ex_112]; rfl) (by decide) rfl (fun ls hl => ?_)
                obtain ⟨x_113, ex_113⟩ : ∃ y : Int32, y = i_1 + 1 := ⟨_, rfl⟩
                have vx_113 := b_add (rfl : i_1.toInt = _) (by decide : (1 : Int32).toInt = 1) ex_113 (by omega) (by omega)
                refine lv_iinc (v := x_113) (lv' := [(3, .int x_113), (4, .int x_112), (5, .int i_12), (0, .ref h0), (1, .int p1), (2, .int p2)]) hx hb dX9_wordOf_121 hl (k := 2) rfl (by rw [ex_113]; rfl) (by decide) rfl (fun ls hl => ?_)
                refine lv_goto (tgt := 5) hx hb dX9_wordOf_124 (by decide) ?_
                exact ih_5 ⟨x_113, x_112, σ_98, ρ_109⟩ _ _ _ ⟨(by omega), (by omega), (by omega), (by omega), (by first | decide | omega), hB, hS, lv_sub hl [1, 0, 3, 4, 5] rfl⟩ (by show (96 - x_112.toInt).toNat < (96 - i_2.toInt).toNat; omega)
              · skip
                have uc_111 := i_ne (n := 32) (by decide) c_111
                obtain ⟨x_114, ex_114⟩ : ∃ y : Int32, y = i_97 + 1 := ⟨_, rfl⟩
                have vx_114 := b_add (rfl : i_97.toInt = _) (by decide : (1 : Int32).toInt = 1) ex_114 (by omega) (by omega)
                refine lv_iinc (v := x_114) (lv' := [(4, .int x_114), (5, .int i_12), (3, .int i_1), (0, .ref h0), (1, .int p1), (2, .int p2)]) hx hb dX9_wordOf_112 hl (k := 1) rfl (by rw [ex_114]; rfl) (by decide) rfl (fun ls hl => ?_)
                refine lv_goto (tgt := 90) hx hb dX9_wordOf_115 (by decide) ?_
                exact ih_100 ⟨x_114, σ_98, ρ_109⟩ _ _ _ ⟨(by omega), (by omega), (by omega), hB, hS, lv_sub hl [1, 0, 2, 3, 4, 5] rfl⟩ (by show (96 - x_114.toInt).toNat < (96 - i_97.toInt).toNat; omega)
          · skip
            have uc_96 := j_eq c_96
            refine lv_iload hx hb dX9_wordOf_66 (lv_at hl 1 rfl) ?_
            refine va_ldcS hx hb hown hV.2.2.2.1 dX9_wordOf_68 ?_
            refine t_ci (va_runV (As := []) (rest := [.int i_11]) ⟨hx, hb, hml, hown, hts⟩ (cs_J0_length_8abf5_0 l D cA L T r hG hLA.1 σ_13 ρ_91 hB.2.1 _ adK adV ) (cV hts mv_J0_length_8abf5 mw_3_51 rfl rfl ⟨Nat.le_of_ble_eq_true rfl, Nat.le_of_ble_eq_true rfl⟩) (pK hB.1 hK hN (hV.to hS) (i := 0) (by decide)) rfl rfl hl.1 rfl (lv_room (Nat.le_of_ble_eq_true rfl)) dX9_wordOf_70 ⟨Nat.le_of_ble_eq_true rfl, Nat.le_of_ble_eq_true rfl⟩) hLA hA hB hS (by decide) (fun x_117 σ_115 ρ_116 H locs hB fσ_115 pσ_115 hS => ?_)
            have qσ_115 := FR.nil fσ_115
            subst qσ_115
            subst pσ_115
            refine lv_icmp_ge (tgt := 88) hx hb dX9_wordOf_73 (by decide) (fun c_118 => ?_) (fun c_118 => ?_)
            · skip
              have uc_118 := i_ge (n := 95) (by decide) c_118
              exfalso; omega
            · skip
              have uc_118 := i_nge (n := 95) (by decide) c_118
              refine va_ldcS hx hb hown hV.2.2.2.1 dX9_wordOf_76 ?_
              refine lv_iload hx hb dX9_wordOf_78 (lv_at hl 1 rfl) ?_
              refine t_ci (va_runV (As := [.int i_11]) (rest := []) ⟨hx, hb, hml, hown, hts⟩ (cs_J0_charAt_5068e_0 l D cA L T r hG hLA.1 σ_13 ρ_116 hB.2.1 _ adK adV i_11 (by first | omega | decide) (by first | omega | decide)) (cV hts mv_J0_charAt_5068e mw_3_61 rfl rfl ⟨Nat.le_of_ble_eq_true rfl, Nat.le_of_ble_eq_true rfl⟩) (pK hB.1 hK hN (hV.to hS) (i := 0) (by decide)) rfl rfl hl.1 rfl (lv_room (Nat.le_of_ble_eq_true rfl)) dX9_wordOf_80 ⟨Nat.le_of_ble_eq_true rfl, Nat.le_of_ble_eq_true rfl⟩) hLA hA hB hS (by decide) (fun x_121 σ_119 ρ_120 H locs hB fσ_119 pσ_119 hS => ?_)
              have qσ_119 := FR.nil fσ_119
              subst qσ_119
              obtain ⟨lx_121, ux_121⟩ := pσ_119
              refine lv_bipush (v := 32) hx hb dX9_wordOf_83 (by decide) ?_
              refine lv_icmp_ne (tgt := 90) hx hb dX9_wordOf_85 (by decide) (fun c_122 => ?_) (fun c_122 => ?_)
              · skip
                have uc_122 := i_ne (n := 32) (by decide) c_122
                refine w_loop (α := Int32 × Sg × Lg) (fun (i_123, σ_124, ρ_125) H locs ls => 0 ≤ i_123.toInt ∧ i_123.toInt ≤ 95 ∧ (i_2.toInt ≤ i_123.toInt) ∧ TS D cA L T r ry ([] : List (Nat × Nat)) σ σ_124 ρ_125 H ∧ va_S (dm L s.heap.size) s.heap H locs ∧ lv_has ls 6 [(5, .int i_12), (4, .int i_123), (3, .int i_1), (0, .ref h0), (1, .int p1), (2, .int p2)]) (fun (i_123, σ_124, ρ_125) => (96 - i_123.toInt).toNat) ?_ ⟨i_11, σ_13, ρ_120⟩ ⟨(by omega), (by omega), (by omega), hB, hS, lv_sub hl [0, 1, 2, 3, 4, 5] rfl⟩
                rintro ⟨i_123, σ_124, ρ_125⟩ H locs ls ⟨li_123, ui_123, g_127, hB, hS, hl⟩ ih_126
                refine lv_iload hx hb dX9_wordOf_90 (lv_at hl 1 rfl) ?_
                refine va_ldcS hx hb hown hV.2.2.2.1 dX9_wordOf_92 ?_
                refine t_ci (va_runV (As := []) (rest := [.int i_123]) ⟨hx, hb, hml, hown, hts⟩ (cs_J0_length_8abf5_0 l D cA L T r hG hLA.1 σ_124 ρ_125 hB.2.1 _ adK adV ) (cV hts mv_J0_length_8abf5 mw_3_51 rfl rfl ⟨Nat.le_of_ble_eq_true rfl, Nat.le_of_ble_eq_true rfl⟩) (pK hB.1 hK hN (hV.to hS) (i := 0) (by decide)) rfl rfl hl.1 rfl (lv_room (Nat.le_of_ble_eq_true rfl)) dX9_wordOf_94 ⟨Nat.le_of_ble_eq_true rfl, Nat.le_of_ble_eq_true rfl⟩) hLA hA hB hS (by decide) (fun x_130 σ_128 ρ_129 H locs hB fσ_128 pσ_128 hS => ?_)
                have qσ_128 := FR.nil fσ_128
                subst qσ_128
                subst pσ_128
                refine lv_icmp_ge (tgt := 118) hx hb dX9_wordOf_97 (by decide) (fun c_131 => ?_) (fun c_131 => ?_)
                · skip
                  have uc_131 := i_ge (n := 95) (by decide) c_131
                  obtain ⟨x_132, ex_132⟩ : ∃ y : Int32, y = i_123 + 1 := ⟨_, rfl⟩
                  have vx_132 := b_add (rfl : i_123.toInt = _) (by decide : (1 : Int32).toInt = 1) ex_132 (by omega) (by omega)
                  refine lv_iinc (v := x_132) (lv' := [(4, .int x_132), (5, .int i_12), (3, .int i_1), (0, .ref h0), (1, .int p1), (2, .int p2)]) hx hb dX9_wordOf_118 hl (k := 1) rfl (by rw [ex_132]; rfl) (by decide) rfl (fun ls hl => ?_)
                  obtain ⟨x_133, ex_133⟩ : ∃ y : Int32, y = i_1 + 1 := ⟨_, rfl⟩
                  have vx_133 := b_add (rfl : i_1.toInt = _) (by decide : (1 : Int32).toInt = 1) ex_133 (by omega) (by omega)
                  refine lv_iinc (v := x_133) (lv' := [(3, .int x_133), (4, .int x_132), (5, .int i_12), (0, .ref h0), (1, .int p1), (2, .int p2)]) hx hb dX9_wordOf_121 hl (k := 2) rfl (by rw [ex_133]; rfl) (by decide) rfl (fun ls hl => ?_)
                  refine lv_goto (tgt := 5) hx hb dX9_wordOf_124 (by decide) ?_
                  exact ih_5 ⟨x_133, x_132, σ_124, ρ_129⟩ _ _ _ ⟨(by omega), (by omega), (by omega), (by omega), (by first | decide | omega), hB, hS, lv_sub hl [1, 0, 3, 4, 5] rfl⟩ (by show (96 - x_132.toInt).toNat < (96 - i_2.toInt).toNat; omega)
                · skip
                  have uc_131 := i_nge (n := 95) (by decide) c_131
                  refine va_ldcS hx hb hown hV.2.2.2.1 dX9_wordOf_100 ?_
                  refine lv_iload hx hb dX9_wordOf_102 (lv_at hl 1 rfl) ?_
                  refine t_ci (va_runV (As := [.int i_123]) (rest := []) ⟨hx, hb, hml, hown, hts⟩ (cs_J0_charAt_5068e_0 l D cA L T r hG hLA.1 σ_124 ρ_129 hB.2.1 _ adK adV i_123 (by first | omega | decide) (by first | omega | decide)) (cV hts mv_J0_charAt_5068e mw_3_61 rfl rfl ⟨Nat.le_of_ble_eq_true rfl, Nat.le_of_ble_eq_true rfl⟩) (pK hB.1 hK hN (hV.to hS) (i := 0) (by decide)) rfl rfl hl.1 rfl (lv_room (Nat.le_of_ble_eq_true rfl)) dX9_wordOf_104 ⟨Nat.le_of_ble_eq_true rfl, Nat.le_of_ble_eq_true rfl⟩) hLA hA hB hS (by decide) (fun x_136 σ_134 ρ_135 H locs hB fσ_134 pσ_134 hS => ?_)
                  have qσ_134 := FR.nil fσ_134
                  subst qσ_134
                  obtain ⟨lx_136, ux_136⟩ := pσ_134
                  refine lv_bipush (v := 32) hx hb dX9_wordOf_107 (by decide) ?_
                  refine lv_icmp_eq (tgt := 118) hx hb dX9_wordOf_109 (by decide) (fun c_137 => ?_) (fun c_137 => ?_)
                  · skip
                    have uc_137 := i_eq (n := 32) (by decide) c_137
                    obtain ⟨x_138, ex_138⟩ : ∃ y : Int32, y = i_123 + 1 := ⟨_, rfl⟩
                    have vx_138 := b_add (rfl : i_123.toInt = _) (by decide : (1 : Int32).toInt = 1) ex_138 (by omega) (by omega)
                    refine lv_iinc (v := x_138) (lv' := [(4, .int x_138), (5, .int i_12), (3, .int i_1), (0, .ref h0), (1, .int p1), (2, .int p2)]) hx hb dX9_wordOf_118 hl (k := 1) rfl (by rw [ex_138]; rfl) (by decide) rfl (fun ls hl => ?_)
                    obtain ⟨x_139, ex_139⟩ : ∃ y : Int32, y = i_1 + 1 := ⟨_, rfl⟩
                    have vx_139 := b_add (rfl : i_1.toInt = _) (by decide : (1 : Int32).toInt = 1) ex_139 (by omega) (by omega)
                    refine lv_iinc (v := x_139) (lv' := [(3, .int x_139), (4, .int x_138), (5, .int i_12), (0, .ref h0), (1, .int p1), (2, .int p2)]) hx hb dX9_wordOf_121 hl (k := 2) rfl (by rw [ex_139]; rfl) (by decide) rfl (fun ls hl => ?_)
                    refine lv_goto (tgt := 5) hx hb dX9_wordOf_124 (by decide) ?_
                    exact ih_5 ⟨x_139, x_138, σ_124, ρ_135⟩ _ _ _ ⟨(by omega), (by omega), (by omega), (by omega), (by first | decide | omega), hB, hS, lv_sub hl [1, 0, 3, 4, 5] rfl⟩ (by show (96 - x_138.toInt).toNat < (96 - i_2.toInt).toNat; omega)
                  · skip
                    have uc_137 := i_ne (n := 32) (by decide) c_137
                    obtain ⟨x_140, ex_140⟩ : ∃ y : Int32, y = i_123 + 1 := ⟨_, rfl⟩
                    have vx_140 := b_add (rfl : i_123.toInt = _) (by decide : (1 : Int32).toInt = 1) ex_140 (by omega) (by omega)
                    refine lv_iinc (v := x_140) (lv' := [(4, .int x_140), (5, .int i_12), (3, .int i_1), (0, .ref h0), (1, .int p1), (2, .int p2)]) hx hb dX9_wordOf_112 hl (k := 1) rfl (by rw [ex_140]; rfl) (by decide) rfl (fun ls hl => ?_)
                    refine lv_goto (tgt := 90) hx hb dX9_wordOf_115 (by decide) ?_
                    exact ih_126 ⟨x_140, σ_124, ρ_135⟩ _ _ _ ⟨(by omega), (by omega), (by omega), hB, hS, lv_sub hl [1, 0, 2, 3, 4, 5] rfl⟩ (by show (96 - x_140.toInt).toNat < (96 - i_123.toInt).toNat; omega)
              · skip
                have uc_122 := i_eq (n := 32) (by decide) c_122
                refine lv_iload_n hx hb dX9_wordOf_88 rfl (lv_at hl 2 rfl) ?_
                exact W.iret (v := i_1) hx hb hr (fun t ht hW => ⟨⟨i_1, (σ_13, ρ_120), rfl, ⟨hB.2.1, hB.2.2, (show (-1) ≤ (i_1 : Int32).toInt ∧ (i_1 : Int32).toInt ≤ 96 from ⟨by omega, by omega⟩)⟩, (show TP D cA L T r σ_13 ρ_120 t.heap from by rw [ht]; exact hB.1)⟩, hS.F ht⟩) hS.2.2 dX9_wordOf_89
        · skip
          have uc_95 := j_eq c_95
          obtain ⟨x_141, ex_141⟩ : ∃ y : Int32, y = i_12 + 1 := ⟨_, rfl⟩
          have vx_141 := b_add (rfl : i_12.toInt = _) (by decide : (1 : Int32).toInt = 1) ex_141 (by omega) (by omega)
          refine lv_iinc (v := x_141) (lv' := [(5, .int x_141), (4, .int i_11), (3, .int i_1), (0, .ref h0), (1, .int p1), (2, .int p2)]) hx hb dX9_wordOf_51 hl (k := 0) rfl (by rw [ex_141]; rfl) (by decide) rfl (fun ls hl => ?_)
          obtain ⟨x_142, ex_142⟩ : ∃ y : Int32, y = i_11 + 1 := ⟨_, rfl⟩
          have vx_142 := b_add (rfl : i_11.toInt = _) (by decide : (1 : Int32).toInt = 1) ex_142 (by omega) (by omega)
          refine lv_iinc (v := x_142) (lv' := [(4, .int x_142), (5, .int x_141), (3, .int i_1), (0, .ref h0), (1, .int p1), (2, .int p2)]) hx hb dX9_wordOf_54 hl (k := 1) rfl (by rw [ex_142]; rfl) (by decide) rfl (fun ls hl => ?_)
          refine lv_goto (tgt := 18) hx hb dX9_wordOf_57 (by decide) ?_
          exact ih_15 ⟨x_142, x_141, σ_13, ρ_91⟩ _ _ _ ⟨(by omega), (by omega), (by omega), (by omega), (by omega), hB, hS, lv_sub hl [1, 0, 2, 3, 4, 5] rfl⟩ (by show (400 - x_141.toInt).toNat < (400 - i_12.toInt).toNat; omega)
theorem mw_3_40 : (.static yX9_isLetter : Cond) ∈ wsA := wsA_t (List.mem_append_right _ (List.mem_append_right _ (List.mem_append_left _ (List.mem_of_getElem? (l := tables_1_3) (i := 40) rfl)))) rfl
theorem mw_3_41 : (.code yX9_isLetter cX9_isLetter 1 (some .boolean) : Cond) ∈ wsA := wsA_t (List.mem_append_right _ (List.mem_append_right _ (List.mem_append_left _ (List.mem_of_getElem? (l := tables_1_3) (i := 41) rfl)))) rfl
theorem mw_3_39 : (.methodLink RX9 42 yX9_isLetter : Cond) ∈ wsA := wsA_t (List.mem_append_right _ (List.mem_append_right _ (List.mem_append_left _ (List.mem_of_getElem? (l := tables_1_3) (i := 39) rfl)))) rfl
theorem mw_3_48 : (.instanceMethod yX9_wordOf : Cond) ∈ wsA := wsA_t (List.mem_append_right _ (List.mem_append_right _ (List.mem_append_left _ (List.mem_of_getElem? (l := tables_1_3) (i := 48) rfl)))) rfl
theorem mp_1_3 : (.selects RX9 yX9_wordOf yX9_wordOf : Cond) ∈ wsA := wsA_p (q := (yX9_wordOf, 7)) (List.mem_append_left _ (List.mem_of_getElem? (l := lw_privs_1) (i := 3) rfl))
theorem mw_3_49 : (.code yX9_wordOf cX9_wordOf 6 (some .int) : Cond) ∈ wsA := wsA_t (List.mem_append_right _ (List.mem_append_right _ (List.mem_append_left _ (List.mem_of_getElem? (l := tables_1_3) (i := 49) rfl)))) rfl
theorem mw_3_46 : (.methodLink RX9 55 yX9_wordOf : Cond) ∈ wsA := wsA_t (List.mem_append_right _ (List.mem_append_right _ (List.mem_append_left _ (List.mem_of_getElem? (l := tables_1_3) (i := 46) rfl)))) rfl
theorem dX9_scanWord_0 : decode cX9_scanWord 0 = .ok (.iload_n 1, 1) := by decide +kernel
theorem dX9_scanWord_1 : decode cX9_scanWord 1 = .ok (.istore_n 2, 1) := by decide +kernel
theorem dX9_scanWord_2 : decode cX9_scanWord 2 = .ok (.iload_n 2, 1) := by decide +kernel
theorem dX9_scanWord_3 : decode cX9_scanWord 3 = .ok (.aload_n 0, 1) := by decide +kernel
theorem dX9_scanWord_4 : decode cX9_scanWord 4 = .ok (.getfield 24, 3) := by decide +kernel
theorem dX9_scanWord_7 : decode cX9_scanWord 7 = .ok (.if_icmp .ge 21, 3) := by decide +kernel
theorem dX9_scanWord_10 : decode cX9_scanWord 10 = .ok (.aload_n 0, 1) := by decide +kernel
theorem dX9_scanWord_11 : decode cX9_scanWord 11 = .ok (.getfield 11, 3) := by decide +kernel
theorem dX9_scanWord_14 : decode cX9_scanWord 14 = .ok (.iload_n 2, 1) := by decide +kernel
theorem dX9_scanWord_15 : decode cX9_scanWord 15 = .ok (.iaload, 1) := by decide +kernel
theorem dX9_scanWord_16 : decode cX9_scanWord 16 = .ok (.invokestatic 42, 3) := by decide +kernel
theorem dX9_scanWord_19 : decode cX9_scanWord 19 = .ok (.ifCond .eq 9, 3) := by decide +kernel
theorem dX9_scanWord_22 : decode cX9_scanWord 22 = .ok (.iinc 2 1, 3) := by decide +kernel
theorem dX9_scanWord_25 : decode cX9_scanWord 25 = .ok (.goto (-23), 3) := by decide +kernel
theorem dX9_scanWord_28 : decode cX9_scanWord 28 = .ok (.aload_n 0, 1) := by decide +kernel
theorem dX9_scanWord_29 : decode cX9_scanWord 29 = .ok (.iload_n 1, 1) := by decide +kernel
theorem dX9_scanWord_30 : decode cX9_scanWord 30 = .ok (.iload_n 2, 1) := by decide +kernel
theorem dX9_scanWord_31 : decode cX9_scanWord 31 = .ok (.invokevirtual 55, 3) := by decide +kernel
theorem dX9_scanWord_34 : decode cX9_scanWord 34 = .ok (.istore_n 3, 1) := by decide +kernel
theorem dX9_scanWord_35 : decode cX9_scanWord 35 = .ok (.aload_n 0, 1) := by decide +kernel
theorem dX9_scanWord_36 : decode cX9_scanWord 36 = .ok (.iload_n 3, 1) := by decide +kernel
theorem dX9_scanWord_37 : decode cX9_scanWord 37 = .ok (.iconst (-1), 1) := by decide +kernel
theorem dX9_scanWord_38 : decode cX9_scanWord 38 = .ok (.if_icmp .ne 9, 3) := by decide +kernel
theorem dX9_scanWord_47 : decode cX9_scanWord 47 = .ok (.sipush 131, 3) := by decide +kernel
theorem dX9_scanWord_50 : decode cX9_scanWord 50 = .ok (.iload_n 1, 1) := by decide +kernel
theorem dX9_scanWord_51 : decode cX9_scanWord 51 = .ok (.iload_n 3, 1) := by decide +kernel
theorem dX9_scanWord_52 : decode cX9_scanWord 52 = .ok (.invokevirtual 51, 3) := by decide +kernel
theorem dX9_scanWord_55 : decode cX9_scanWord 55 = .ok (.iload_n 2, 1) := by decide +kernel
theorem dX9_scanWord_56 : decode cX9_scanWord 56 = .ok (.ireturn, 1) := by decide +kernel
theorem dX9_scanWord_41 : decode cX9_scanWord 41 = .ok (.sipush 132, 3) := by decide +kernel
theorem dX9_scanWord_44 : decode cX9_scanWord 44 = .ok (.goto 6, 3) := by decide +kernel
theorem ms_X9_isLetter : MS RX9 yX9_isLetter cX9_isLetter 1 (some .boolean) 1 := ⟨mw_3_40, mw_1_2, mw_3_41, ⟨rfl, by decide, by decide, by decide +kernel⟩⟩
theorem mv_X9_wordOf : MV RX9 yX9_wordOf cX9_wordOf 6 (some .int) 2 := ⟨mw_3_48, mp_1_3, mw_1_2, mw_3_49, ⟨rfl, by decide, by decide, by decide +kernel⟩⟩
set_option maxHeartbeats 4000000 in
set_option maxRecDepth 100000 in
theorem cy_X9_scanWord (l : Launch) (D : va_G) (cA : Nat → ClassId) (L : List Nat) (T : Nat → Nat) (r : Rg) (hG : GR L T r) (hL : L.Nodup) (σ : Sg) (ρ : Lg) (hW : WT L ry T σ) (sz : Nat) (adK adV : Nat → Nat) (h0 : Nat) (mh0 : h0 ∈ L) (th0 : T h0 = 9) (p1 : Int32) (w0 : 0 ≤ p1.toInt) (w1 : p1.toInt ≤ 399) : Met l yX9_scanWord (.code yX9_scanWord cX9_scanWord 4 (some .int) :: wsA) ({ frames := 5, cells := 0, slots := 0, locals := 110 }) (PZ adK adV D cA L T r σ ρ sz [.ref h0, .int p1]) (QI D cA L T r ry [(9, 5), (52, 1000), (53, 1000), (54, 1000)] σ sz (fun x σ1 => (0 ≤ x.toInt ∧ x.toInt ≤ 400))) 0 0 (dm L sz) := by
  refine Met.ofW (cc := cX9_scanWord) (maxL := 4) (ret := (some .int)) (by decide) rfl ?_
  intro p e s m args below meth c s₁ B hml hv
  obtain ⟨rfl, hsz, hP, hK, hN, hV⟩ := hv
  have hx := B.exec
  have hb := B.bytes
  have hr := B.returns
  have hts : ∀ w ∈ wsA, w.before _ s = true := fun w h => atoms_spec (ws := .code yX9_scanWord cX9_scanWord 4 (some .int) :: wsA) B.pre w (List.mem_cons_of_mem _ h)
  have hown : s.vm.findClass RX9 = some m.cls := findClass_of_methodNamed B.named
  subst hsz
  have hLA : LA (dm L s.heap.size) L := ⟨hL, fun a h => Or.inl h⟩
  have hA : ∀ q : Nat, s.heap.size ≤ q → dm L s.heap.size q := fun q h => Or.inr h
  have hS : va_S (dm L s.heap.size) s.heap s.heap [] := va_S.rf
  have hB : TS D cA L T r ry [(9, 5), (52, 1000), (53, 1000), (54, 1000)] σ σ ρ s.heap := ⟨hP, hW, FR.rf⟩
  have hl := lv_entry ([.ref h0, .int p1]) (n := 4) (Nat.le_of_ble_eq_true rfl)
  rw [lg_entry_eq]
  generalize (lg_sl ([.ref h0, .int p1]) ++ List.replicate (4 - (lg_sl ([.ref h0, .int p1])).length) Slot.unset).toArray = ls at hl ⊢
  have hl : lv_has ls 4 [(0, .ref h0), (1, .int p1)] := hl
  refine lv_iload_n hx hb dX9_scanWord_0 rfl (lv_at hl 1 rfl) ?_
  refine lv_istore_n (lv' := [(2, .int p1), (0, .ref h0), (1, .int p1)]) hx hb dX9_scanWord_1 rfl hl (by decide) rfl (fun ls hl => ?_)
  refine w_loop (α := Int32 × Sg × Lg) (fun (i_1, σ_2, ρ_3) H locs ls => 0 ≤ i_1.toInt ∧ i_1.toInt ≤ 400 ∧ TS D cA L T r ry [(9, 5), (52, 1000), (53, 1000), (54, 1000)] σ σ_2 ρ_3 H ∧ va_S (dm L s.heap.size) s.heap H locs ∧ lv_has ls 4 [(2, .int i_1), (0, .ref h0), (1, .int p1)]) (fun (i_1, σ_2, ρ_3) => (400 - i_1.toInt).toNat) ?_ ⟨p1, σ, ρ⟩ ⟨(by omega), (by omega), hB, hS, lv_sub hl [0, 1, 2] rfl⟩
  rintro ⟨i_1, σ_2, ρ_3⟩ H locs ls ⟨li_1, ui_1, hB, hS, hl⟩ ih_4
  refine lv_iload_n hx hb dX9_scanWord_2 rfl (lv_at hl 0 rfl) ?_
  refine lv_aload_n hx hb dX9_scanWord_3 rfl (lv_at hl 1 rfl) ?_
  refine t_gi hx hb hts hown hK hB mh0 th0 fi_9_4 rfl mw_1_41 dX9_scanWord_4 (fun x_5 ex_5 lx_5 ux_5 => ?_)
  have cx_5 := congrArg Int32.toInt ex_5
  refine lv_icmp_ge (tgt := 28) hx hb dX9_scanWord_7 (by decide) (fun c_6 => ?_) (fun c_6 => ?_)
  · skip
    have uc_6 := j_le c_6
    refine lv_aload_n hx hb dX9_scanWord_28 rfl (lv_at hl 1 rfl) ?_
    refine lv_iload_n hx hb dX9_scanWord_29 rfl (lv_at hl 2 rfl) ?_
    refine lv_iload_n hx hb dX9_scanWord_30 rfl (lv_at hl 0 rfl) ?_
    refine t_ci (va_runV (As := [.int p1, .int i_1]) (rest := []) ⟨hx, hb, hml, hown, hts⟩ (cy_X9_wordOf l D cA L T r hG hLA.1 σ_2 ρ_3 hB.2.1 _ adK adV h0 mh0 th0 p1 i_1 (by first | omega | decide) (by first | omega | decide) (by first | omega | decide)) (cV hts mv_X9_wordOf mw_3_46 rfl rfl ⟨Nat.le_of_ble_eq_true rfl, Nat.le_of_ble_eq_true rfl⟩) (pVz hB.1 hK hN mh0 th0 (show shp cA 9 _ _ _ = .inr (9, Fs9 _ _ _) from rfl) rfl (hV.to hS)) rfl rfl hl.1 rfl (lv_room (Nat.le_of_ble_eq_true rfl)) dX9_scanWord_31 ⟨Nat.le_of_ble_eq_true rfl, Nat.le_of_ble_eq_true rfl⟩) hLA hA hB hS (by decide) (fun x_9 σ_7 ρ_8 H locs hB fσ_7 pσ_7 hS => ?_)
    have qσ_7 := FR.nil fσ_7
    subst qσ_7
    obtain ⟨lx_9, ux_9⟩ := pσ_7
    refine lv_istore_n (lv' := [(3, .int x_9), (2, .int i_1), (0, .ref h0), (1, .int p1)]) hx hb dX9_scanWord_34 rfl hl (by decide) rfl (fun ls hl => ?_)
    refine lv_aload_n hx hb dX9_scanWord_35 rfl (lv_at hl 2 rfl) ?_
    refine lv_iload_n hx hb dX9_scanWord_36 rfl (lv_at hl 0 rfl) ?_
    refine lv_iconst (v := (-1)) hx hb dX9_scanWord_37 (by decide) ?_
    refine lv_icmp_ne (tgt := 47) hx hb dX9_scanWord_38 (by decide) (fun c_10 => ?_) (fun c_10 => ?_)
    · skip
      have uc_10 := i_ne (n := (-1)) (by decide) c_10
      refine lv_sipush (v := 131) hx hb dX9_scanWord_47 (by decide) ?_
      refine lv_iload_n hx hb dX9_scanWord_50 rfl (lv_at hl 3 rfl) ?_
      refine lv_iload_n hx hb dX9_scanWord_51 rfl (lv_at hl 0 rfl) ?_
      refine t_cv (va_runV (As := [.int 131, .int p1, .int x_9]) (rest := []) ⟨hx, hb, hml, hown, hts⟩ (cy_X9_put l D cA L T r hG hLA.1 σ_2 ρ_8 hB.2.1 _ h0 mh0 th0 131 p1 x_9 (by first | omega | decide) (by first | omega | decide) (by first | omega | decide) (by first | omega | decide) (by first | omega | decide) (by first | omega | decide)) (cV hts mv_X9_put mw_3_35 rfl rfl ⟨Nat.le_of_ble_eq_true rfl, Nat.le_of_ble_eq_true rfl⟩) (pV hB.1 hK hN mh0 th0 (show shp cA 9 _ _ _ = .inr (9, Fs9 _ _ _) from rfl) rfl) rfl rfl hl.1 rfl (lv_room (Nat.le_of_ble_eq_true rfl)) dX9_scanWord_52 ⟨Nat.le_of_ble_eq_true rfl, Nat.le_of_ble_eq_true rfl⟩) hLA hA hB hS (by decide) (fun σ_11 ρ_12 H locs hB fσ_11 pσ_11 hS => ?_)
      refine lv_iload_n hx hb dX9_scanWord_55 rfl (lv_at hl 1 rfl) ?_
      exact W.iret (v := i_1) hx hb hr (fun t ht hW => ⟨⟨i_1, (σ_11, ρ_12), rfl, ⟨hB.2.1, hB.2.2, (show 0 ≤ (i_1 : Int32).toInt ∧ (i_1 : Int32).toInt ≤ 400 from ⟨by omega, by omega⟩)⟩, (show TP D cA L T r σ_11 ρ_12 t.heap from by rw [ht]; exact hB.1)⟩, hS.F ht⟩) hS.2.2 dX9_scanWord_56
    · skip
      have uc_10 := i_eq (n := (-1)) (by decide) c_10
      refine lv_sipush (v := 132) hx hb dX9_scanWord_41 (by decide) ?_
      refine lv_goto (tgt := 50) hx hb dX9_scanWord_44 (by decide) ?_
      refine lv_iload_n hx hb dX9_scanWord_50 rfl (lv_at hl 3 rfl) ?_
      refine lv_iload_n hx hb dX9_scanWord_51 rfl (lv_at hl 0 rfl) ?_
      refine t_cv (va_runV (As := [.int 132, .int p1, .int x_9]) (rest := []) ⟨hx, hb, hml, hown, hts⟩ (cy_X9_put l D cA L T r hG hLA.1 σ_2 ρ_8 hB.2.1 _ h0 mh0 th0 132 p1 x_9 (by first | omega | decide) (by first | omega | decide) (by first | omega | decide) (by first | omega | decide) (by first | omega | decide) (by first | omega | decide)) (cV hts mv_X9_put mw_3_35 rfl rfl ⟨Nat.le_of_ble_eq_true rfl, Nat.le_of_ble_eq_true rfl⟩) (pV hB.1 hK hN mh0 th0 (show shp cA 9 _ _ _ = .inr (9, Fs9 _ _ _) from rfl) rfl) rfl rfl hl.1 rfl (lv_room (Nat.le_of_ble_eq_true rfl)) dX9_scanWord_52 ⟨Nat.le_of_ble_eq_true rfl, Nat.le_of_ble_eq_true rfl⟩) hLA hA hB hS (by decide) (fun σ_14 ρ_15 H locs hB fσ_14 pσ_14 hS => ?_)
      refine lv_iload_n hx hb dX9_scanWord_55 rfl (lv_at hl 1 rfl) ?_
      exact W.iret (v := i_1) hx hb hr (fun t ht hW => ⟨⟨i_1, (σ_14, ρ_15), rfl, ⟨hB.2.1, hB.2.2, (show 0 ≤ (i_1 : Int32).toInt ∧ (i_1 : Int32).toInt ≤ 400 from ⟨by omega, by omega⟩)⟩, (show TP D cA L T r σ_14 ρ_15 t.heap from by rw [ht]; exact hB.1)⟩, hS.F ht⟩) hS.2.2 dX9_scanWord_56
  · skip
    have uc_6 := j_nle c_6
    refine lv_aload_n hx hb dX9_scanWord_10 rfl (lv_at hl 1 rfl) ?_
    refine t_gr hx hb hts hown hK hG hB mh0 th0 fq_9_0 rfl mw_1_36 dX9_scanWord_11 (fun b_17 hb_17 mb_17 tb_17 => ?_)
    refine lv_iload_n hx hb dX9_scanWord_14 rfl (lv_at hl 0 rfl) ?_
    refine t_ai hx hb hK hB mb_17 tb_17 ai_51 (fun _ => rfl) (i_in (by omega) (by omega)) dX9_scanWord_15 (fun x_18 ex_18 lx_18 ux_18 => ?_)
    have cx_18 := congrArg Int32.toInt ex_18
    refine t_ci (va_runS (As := [.int x_18]) (rest := []) ⟨hx, hb, hml, hown, hts⟩ (cy_X9_isLetter l D cA L T r hG hLA.1 σ_2 ρ_3 hB.2.1 _ x_18) (cS hts ms_X9_isLetter mw_3_39 rfl rfl ⟨Nat.le_of_ble_eq_true rfl, Nat.le_of_ble_eq_true rfl⟩) (pS hB.1 hK hN) rfl rfl hl.1 rfl (lv_room (Nat.le_of_ble_eq_true rfl)) dX9_scanWord_16 ⟨Nat.le_of_ble_eq_true rfl, Nat.le_of_ble_eq_true rfl⟩) hLA hA hB hS (by decide) (fun x_21 σ_19 ρ_20 H locs hB fσ_19 pσ_19 hS => ?_)
    have qσ_19 := FR.nil fσ_19
    subst qσ_19
    obtain ⟨ox_21, ix_21⟩ := pσ_19
    refine lv_if_eq (tgt := 28) hx hb dX9_scanWord_19 (by decide) (fun c_22 => ?_) (fun c_22 => ?_)
    · skip
      have uc_22 := i_eq (n := 0) (by decide) c_22
      refine lv_aload_n hx hb dX9_scanWord_28 rfl (lv_at hl 1 rfl) ?_
      refine lv_iload_n hx hb dX9_scanWord_29 rfl (lv_at hl 2 rfl) ?_
      refine lv_iload_n hx hb dX9_scanWord_30 rfl (lv_at hl 0 rfl) ?_
      refine t_ci (va_runV (As := [.int p1, .int i_1]) (rest := []) ⟨hx, hb, hml, hown, hts⟩ (cy_X9_wordOf l D cA L T r hG hLA.1 σ_2 ρ_20 hB.2.1 _ adK adV h0 mh0 th0 p1 i_1 (by first | omega | decide) (by first | omega | decide) (by first | omega | decide)) (cV hts mv_X9_wordOf mw_3_46 rfl rfl ⟨Nat.le_of_ble_eq_true rfl, Nat.le_of_ble_eq_true rfl⟩) (pVz hB.1 hK hN mh0 th0 (show shp cA 9 _ _ _ = .inr (9, Fs9 _ _ _) from rfl) rfl (hV.to hS)) rfl rfl hl.1 rfl (lv_room (Nat.le_of_ble_eq_true rfl)) dX9_scanWord_31 ⟨Nat.le_of_ble_eq_true rfl, Nat.le_of_ble_eq_true rfl⟩) hLA hA hB hS (by decide) (fun x_25 σ_23 ρ_24 H locs hB fσ_23 pσ_23 hS => ?_)
      have qσ_23 := FR.nil fσ_23
      subst qσ_23
      obtain ⟨lx_25, ux_25⟩ := pσ_23
      refine lv_istore_n (lv' := [(3, .int x_25), (2, .int i_1), (0, .ref h0), (1, .int p1)]) hx hb dX9_scanWord_34 rfl hl (by decide) rfl (fun ls hl => ?_)
      refine lv_aload_n hx hb dX9_scanWord_35 rfl (lv_at hl 2 rfl) ?_
      refine lv_iload_n hx hb dX9_scanWord_36 rfl (lv_at hl 0 rfl) ?_
      refine lv_iconst (v := (-1)) hx hb dX9_scanWord_37 (by decide) ?_
      refine lv_icmp_ne (tgt := 47) hx hb dX9_scanWord_38 (by decide) (fun c_26 => ?_) (fun c_26 => ?_)
      · skip
        have uc_26 := i_ne (n := (-1)) (by decide) c_26
        refine lv_sipush (v := 131) hx hb dX9_scanWord_47 (by decide) ?_
        refine lv_iload_n hx hb dX9_scanWord_50 rfl (lv_at hl 3 rfl) ?_
        refine lv_iload_n hx hb dX9_scanWord_51 rfl (lv_at hl 0 rfl) ?_
        refine t_cv (va_runV (As := [.int 131, .int p1, .int x_25]) (rest := []) ⟨hx, hb, hml, hown, hts⟩ (cy_X9_put l D cA L T r hG hLA.1 σ_2 ρ_24 hB.2.1 _ h0 mh0 th0 131 p1 x_25 (by first | omega | decide) (by first | omega | decide) (by first | omega | decide) (by first | omega | decide) (by first | omega | decide) (by first | omega | decide)) (cV hts mv_X9_put mw_3_35 rfl rfl ⟨Nat.le_of_ble_eq_true rfl, Nat.le_of_ble_eq_true rfl⟩) (pV hB.1 hK hN mh0 th0 (show shp cA 9 _ _ _ = .inr (9, Fs9 _ _ _) from rfl) rfl) rfl rfl hl.1 rfl (lv_room (Nat.le_of_ble_eq_true rfl)) dX9_scanWord_52 ⟨Nat.le_of_ble_eq_true rfl, Nat.le_of_ble_eq_true rfl⟩) hLA hA hB hS (by decide) (fun σ_27 ρ_28 H locs hB fσ_27 pσ_27 hS => ?_)
        refine lv_iload_n hx hb dX9_scanWord_55 rfl (lv_at hl 1 rfl) ?_
        exact W.iret (v := i_1) hx hb hr (fun t ht hW => ⟨⟨i_1, (σ_27, ρ_28), rfl, ⟨hB.2.1, hB.2.2, (show 0 ≤ (i_1 : Int32).toInt ∧ (i_1 : Int32).toInt ≤ 400 from ⟨by omega, by omega⟩)⟩, (show TP D cA L T r σ_27 ρ_28 t.heap from by rw [ht]; exact hB.1)⟩, hS.F ht⟩) hS.2.2 dX9_scanWord_56
      · skip
        have uc_26 := i_eq (n := (-1)) (by decide) c_26
        refine lv_sipush (v := 132) hx hb dX9_scanWord_41 (by decide) ?_
        refine lv_goto (tgt := 50) hx hb dX9_scanWord_44 (by decide) ?_
        refine lv_iload_n hx hb dX9_scanWord_50 rfl (lv_at hl 3 rfl) ?_
        refine lv_iload_n hx hb dX9_scanWord_51 rfl (lv_at hl 0 rfl) ?_
        refine t_cv (va_runV (As := [.int 132, .int p1, .int x_25]) (rest := []) ⟨hx, hb, hml, hown, hts⟩ (cy_X9_put l D cA L T r hG hLA.1 σ_2 ρ_24 hB.2.1 _ h0 mh0 th0 132 p1 x_25 (by first | omega | decide) (by first | omega | decide) (by first | omega | decide) (by first | omega | decide) (by first | omega | decide) (by first | omega | decide)) (cV hts mv_X9_put mw_3_35 rfl rfl ⟨Nat.le_of_ble_eq_true rfl, Nat.le_of_ble_eq_true rfl⟩) (pV hB.1 hK hN mh0 th0 (show shp cA 9 _ _ _ = .inr (9, Fs9 _ _ _) from rfl) rfl) rfl rfl hl.1 rfl (lv_room (Nat.le_of_ble_eq_true rfl)) dX9_scanWord_52 ⟨Nat.le_of_ble_eq_true rfl, Nat.le_of_ble_eq_true rfl⟩) hLA hA hB hS (by decide) (fun σ_30 ρ_31 H locs hB fσ_30 pσ_30 hS => ?_)
        refine lv_iload_n hx hb dX9_scanWord_55 rfl (lv_at hl 1 rfl) ?_
        exact W.iret (v := i_1) hx hb hr (fun t ht hW => ⟨⟨i_1, (σ_30, ρ_31), rfl, ⟨hB.2.1, hB.2.2, (show 0 ≤ (i_1 : Int32).toInt ∧ (i_1 : Int32).toInt ≤ 400 from ⟨by omega, by omega⟩)⟩, (show TP D cA L T r σ_30 ρ_31 t.heap from by rw [ht]; exact hB.1)⟩, hS.F ht⟩) hS.2.2 dX9_scanWord_56
    · skip
      have uc_22 := i_ne (n := 0) (by decide) c_22
      obtain ⟨x_33, ex_33⟩ : ∃ y : Int32, y = i_1 + 1 := ⟨_, rfl⟩
      have vx_33 := b_add (rfl : i_1.toInt = _) (by decide : (1 : Int32).toInt = 1) ex_33 (by omega) (by omega)
      refine lv_iinc (v := x_33) (lv' := [(2, .int x_33), (0, .ref h0), (1, .int p1)]) hx hb dX9_scanWord_22 hl (k := 0) rfl (by rw [ex_33]; rfl) (by decide) rfl (fun ls hl => ?_)
      refine lv_goto (tgt := 2) hx hb dX9_scanWord_25 (by decide) ?_
      exact ih_4 ⟨x_33, σ_2, ρ_20⟩ _ _ _ ⟨(by omega), (by omega), hB, hS, lv_sub hl [0, 1, 2] rfl⟩ (by show (400 - x_33.toInt).toNat < (400 - i_1.toInt).toNat; omega)
theorem mw_3_105 : (.instanceMethod yJ0_indexOf_0f7a4 : Cond) ∈ wsA := wsA_t (List.mem_append_right _ (List.mem_append_right _ (List.mem_append_left _ (List.mem_of_getElem? (l := tables_1_3) (i := 105) rfl)))) rfl
theorem mw_3_106 : (.selects RJ0 yJ0_indexOf_0f7a4 yJ0_indexOf_0f7a4 : Cond) ∈ wsA := wsA_t (List.mem_append_right _ (List.mem_append_right _ (List.mem_append_left _ (List.mem_of_getElem? (l := tables_1_3) (i := 106) rfl)))) rfl
theorem mw_3_107 : (.code yJ0_indexOf_0f7a4 cJ0_indexOf_0f7a4 2 (some .int) : Cond) ∈ wsA := wsA_t (List.mem_append_right _ (List.mem_append_right _ (List.mem_append_left _ (List.mem_of_getElem? (l := tables_1_3) (i := 107) rfl)))) rfl
theorem mw_3_104 : (.methodLink RX9 73 yJ0_indexOf_0f7a4 : Cond) ∈ wsA := wsA_t (List.mem_append_right _ (List.mem_append_right _ (List.mem_append_left _ (List.mem_of_getElem? (l := tables_1_3) (i := 104) rfl)))) rfl
theorem dX9_scanSign_0 : decode cX9_scanSign 0 = .ok (.aload_n 0, 1) := by decide +kernel
theorem dX9_scanSign_1 : decode cX9_scanSign 1 = .ok (.getfield 11, 3) := by decide +kernel
theorem dX9_scanSign_4 : decode cX9_scanSign 4 = .ok (.iload_n 1, 1) := by decide +kernel
theorem dX9_scanSign_5 : decode cX9_scanSign 5 = .ok (.iaload, 1) := by decide +kernel
theorem dX9_scanSign_6 : decode cX9_scanSign 6 = .ok (.istore_n 2, 1) := by decide +kernel
theorem dX9_scanSign_7 : decode cX9_scanSign 7 = .ok (.iload_n 1, 1) := by decide +kernel
theorem dX9_scanSign_8 : decode cX9_scanSign 8 = .ok (.iconst 1, 1) := by decide +kernel
theorem dX9_scanSign_9 : decode cX9_scanSign 9 = .ok (.iadd, 1) := by decide +kernel
theorem dX9_scanSign_10 : decode cX9_scanSign 10 = .ok (.aload_n 0, 1) := by decide +kernel
theorem dX9_scanSign_11 : decode cX9_scanSign 11 = .ok (.getfield 24, 3) := by decide +kernel
theorem dX9_scanSign_14 : decode cX9_scanSign 14 = .ok (.if_icmp .ge 20, 3) := by decide +kernel
theorem dX9_scanSign_34 : decode cX9_scanSign 34 = .ok (.iconst 0, 1) := by decide +kernel
theorem dX9_scanSign_35 : decode cX9_scanSign 35 = .ok (.istore_n 3, 1) := by decide +kernel
theorem dX9_scanSign_36 : decode cX9_scanSign 36 = .ok (.iload_n 2, 1) := by decide +kernel
theorem dX9_scanSign_37 : decode cX9_scanSign 37 = .ok (.bipush 60, 2) := by decide +kernel
theorem dX9_scanSign_39 : decode cX9_scanSign 39 = .ok (.if_icmp .ne 20, 3) := by decide +kernel
theorem dX9_scanSign_59 : decode cX9_scanSign 59 = .ok (.iload_n 2, 1) := by decide +kernel
theorem dX9_scanSign_60 : decode cX9_scanSign 60 = .ok (.bipush 62, 2) := by decide +kernel
theorem dX9_scanSign_62 : decode cX9_scanSign 62 = .ok (.if_icmp .ne 20, 3) := by decide +kernel
theorem dX9_scanSign_82 : decode cX9_scanSign 82 = .ok (.aload_n 0, 1) := by decide +kernel
theorem dX9_scanSign_83 : decode cX9_scanSign 83 = .ok (.ldc 71, 2) := by decide +kernel
theorem dX9_scanSign_85 : decode cX9_scanSign 85 = .ok (.iload_n 2, 1) := by decide +kernel
theorem dX9_scanSign_86 : decode cX9_scanSign 86 = .ok (.i2c, 1) := by decide +kernel
theorem dX9_scanSign_87 : decode cX9_scanSign 87 = .ok (.invokevirtual 73, 3) := by decide +kernel
theorem dX9_scanSign_90 : decode cX9_scanSign 90 = .ok (.ifCond .lt 7, 3) := by decide +kernel
theorem dX9_scanSign_97 : decode cX9_scanSign 97 = .ok (.sipush 132, 3) := by decide +kernel
theorem dX9_scanSign_100 : decode cX9_scanSign 100 = .ok (.iload_n 1, 1) := by decide +kernel
theorem dX9_scanSign_101 : decode cX9_scanSign 101 = .ok (.iconst 0, 1) := by decide +kernel
theorem dX9_scanSign_102 : decode cX9_scanSign 102 = .ok (.invokevirtual 51, 3) := by decide +kernel
theorem dX9_scanSign_105 : decode cX9_scanSign 105 = .ok (.iload_n 1, 1) := by decide +kernel
theorem dX9_scanSign_106 : decode cX9_scanSign 106 = .ok (.iconst 1, 1) := by decide +kernel
theorem dX9_scanSign_107 : decode cX9_scanSign 107 = .ok (.iadd, 1) := by decide +kernel
theorem dX9_scanSign_108 : decode cX9_scanSign 108 = .ok (.ireturn, 1) := by decide +kernel
theorem dX9_scanSign_93 : decode cX9_scanSign 93 = .ok (.iload_n 2, 1) := by decide +kernel
theorem dX9_scanSign_94 : decode cX9_scanSign 94 = .ok (.goto 6, 3) := by decide +kernel
theorem dX9_scanSign_65 : decode cX9_scanSign 65 = .ok (.iload_n 3, 1) := by decide +kernel
theorem dX9_scanSign_66 : decode cX9_scanSign 66 = .ok (.ifCond .eq 16, 3) := by decide +kernel
theorem dX9_scanSign_42 : decode cX9_scanSign 42 = .ok (.iload_n 3, 1) := by decide +kernel
theorem dX9_scanSign_43 : decode cX9_scanSign 43 = .ok (.ifCond .eq 16, 3) := by decide +kernel
theorem dX9_scanSign_17 : decode cX9_scanSign 17 = .ok (.aload_n 0, 1) := by decide +kernel
theorem dX9_scanSign_18 : decode cX9_scanSign 18 = .ok (.getfield 11, 3) := by decide +kernel
theorem dX9_scanSign_21 : decode cX9_scanSign 21 = .ok (.iload_n 1, 1) := by decide +kernel
theorem dX9_scanSign_22 : decode cX9_scanSign 22 = .ok (.iconst 1, 1) := by decide +kernel
theorem dX9_scanSign_23 : decode cX9_scanSign 23 = .ok (.iadd, 1) := by decide +kernel
theorem dX9_scanSign_24 : decode cX9_scanSign 24 = .ok (.iaload, 1) := by decide +kernel
theorem dX9_scanSign_25 : decode cX9_scanSign 25 = .ok (.bipush 61, 2) := by decide +kernel
theorem dX9_scanSign_27 : decode cX9_scanSign 27 = .ok (.if_icmp .ne 7, 3) := by decide +kernel
theorem dX9_scanSign_30 : decode cX9_scanSign 30 = .ok (.iconst 1, 1) := by decide +kernel
theorem dX9_scanSign_31 : decode cX9_scanSign 31 = .ok (.goto 4, 3) := by decide +kernel
theorem dX9_scanSign_69 : decode cX9_scanSign 69 = .ok (.aload_n 0, 1) := by decide +kernel
theorem dX9_scanSign_70 : decode cX9_scanSign 70 = .ok (.sipush 129, 3) := by decide +kernel
theorem dX9_scanSign_73 : decode cX9_scanSign 73 = .ok (.iload_n 1, 1) := by decide +kernel
theorem dX9_scanSign_74 : decode cX9_scanSign 74 = .ok (.iconst 0, 1) := by decide +kernel
theorem dX9_scanSign_75 : decode cX9_scanSign 75 = .ok (.invokevirtual 51, 3) := by decide +kernel
theorem dX9_scanSign_78 : decode cX9_scanSign 78 = .ok (.iload_n 1, 1) := by decide +kernel
theorem dX9_scanSign_79 : decode cX9_scanSign 79 = .ok (.iconst 2, 1) := by decide +kernel
theorem dX9_scanSign_80 : decode cX9_scanSign 80 = .ok (.iadd, 1) := by decide +kernel
theorem dX9_scanSign_81 : decode cX9_scanSign 81 = .ok (.ireturn, 1) := by decide +kernel
theorem dX9_scanSign_46 : decode cX9_scanSign 46 = .ok (.aload_n 0, 1) := by decide +kernel
theorem dX9_scanSign_47 : decode cX9_scanSign 47 = .ok (.sipush 128, 3) := by decide +kernel
theorem dX9_scanSign_50 : decode cX9_scanSign 50 = .ok (.iload_n 1, 1) := by decide +kernel
theorem dX9_scanSign_51 : decode cX9_scanSign 51 = .ok (.iconst 0, 1) := by decide +kernel
theorem dX9_scanSign_52 : decode cX9_scanSign 52 = .ok (.invokevirtual 51, 3) := by decide +kernel
theorem dX9_scanSign_55 : decode cX9_scanSign 55 = .ok (.iload_n 1, 1) := by decide +kernel
theorem dX9_scanSign_56 : decode cX9_scanSign 56 = .ok (.iconst 2, 1) := by decide +kernel
theorem dX9_scanSign_57 : decode cX9_scanSign 57 = .ok (.iadd, 1) := by decide +kernel
theorem dX9_scanSign_58 : decode cX9_scanSign 58 = .ok (.ireturn, 1) := by decide +kernel
theorem mv_J0_indexOf_0f7a4 : MV RJ0 yJ0_indexOf_0f7a4 cJ0_indexOf_0f7a4 2 (some .int) 1 := ⟨mw_3_105, mw_3_106, mw_1_14, mw_3_107, ⟨rfl, by decide, by decide, by decide +kernel⟩⟩
set_option maxHeartbeats 4000000 in
set_option maxRecDepth 100000 in
theorem cy_X9_scanSign (l : Launch) (D : va_G) (cA : Nat → ClassId) (L : List Nat) (T : Nat → Nat) (r : Rg) (hG : GR L T r) (hL : L.Nodup) (σ : Sg) (ρ : Lg) (hW : WT L ry T σ) (sz : Nat) (adK adV : Nat → Nat) (h0 : Nat) (mh0 : h0 ∈ L) (th0 : T h0 = 9) (p1 : Int32) (w0 : 0 ≤ p1.toInt) (w1 : p1.toInt ≤ 399) : Met l yX9_scanSign (.code yX9_scanSign cX9_scanSign 4 (some .int) :: wsA) ({ frames := 4, cells := 0, slots := 0, locals := 106 }) (PZ adK adV D cA L T r σ ρ sz [.ref h0, .int p1]) (QI D cA L T r ry [(9, 5), (52, 1000), (53, 1000), (54, 1000)] σ sz (fun x σ1 => (0 ≤ x.toInt ∧ x.toInt ≤ 400))) 0 0 (dm L sz) := by
  refine Met.ofW (cc := cX9_scanSign) (maxL := 4) (ret := (some .int)) (by decide) rfl ?_
  intro p e s m args below meth c s₁ B hml hv
  obtain ⟨rfl, hsz, hP, hK, hN, hV⟩ := hv
  have hx := B.exec
  have hb := B.bytes
  have hr := B.returns
  have hts : ∀ w ∈ wsA, w.before _ s = true := fun w h => atoms_spec (ws := .code yX9_scanSign cX9_scanSign 4 (some .int) :: wsA) B.pre w (List.mem_cons_of_mem _ h)
  have hown : s.vm.findClass RX9 = some m.cls := findClass_of_methodNamed B.named
  subst hsz
  have hLA : LA (dm L s.heap.size) L := ⟨hL, fun a h => Or.inl h⟩
  have hA : ∀ q : Nat, s.heap.size ≤ q → dm L s.heap.size q := fun q h => Or.inr h
  have hS : va_S (dm L s.heap.size) s.heap s.heap [] := va_S.rf
  have hB : TS D cA L T r ry [(9, 5), (52, 1000), (53, 1000), (54, 1000)] σ σ ρ s.heap := ⟨hP, hW, FR.rf⟩
  have hl := lv_entry ([.ref h0, .int p1]) (n := 4) (Nat.le_of_ble_eq_true rfl)
  rw [lg_entry_eq]
  generalize (lg_sl ([.ref h0, .int p1]) ++ List.replicate (4 - (lg_sl ([.ref h0, .int p1])).length) Slot.unset).toArray = ls at hl ⊢
  have hl : lv_has ls 4 [(0, .ref h0), (1, .int p1)] := hl
  refine lv_aload_n hx hb dX9_scanSign_0 rfl (lv_at hl 0 rfl) ?_
  refine t_gr hx hb hts hown hK hG hB mh0 th0 fq_9_0 rfl mw_1_36 dX9_scanSign_1 (fun b_1 hb_1 mb_1 tb_1 => ?_)
  refine lv_iload_n hx hb dX9_scanSign_4 rfl (lv_at hl 1 rfl) ?_
  refine t_ai hx hb hK hB mb_1 tb_1 ai_51 (fun _ => rfl) (i_in (by omega) (by omega)) dX9_scanSign_5 (fun x_2 ex_2 lx_2 ux_2 => ?_)
  have cx_2 := congrArg Int32.toInt ex_2
  refine lv_istore_n (lv' := [(2, .int x_2), (0, .ref h0), (1, .int p1)]) hx hb dX9_scanSign_6 rfl hl (by decide) rfl (fun ls hl => ?_)
  refine lv_iload_n hx hb dX9_scanSign_7 rfl (lv_at hl 2 rfl) ?_
  refine lv_iconst (v := 1) hx hb dX9_scanSign_8 (by decide) ?_
  refine lv_iadd hx hb dX9_scanSign_9 ?_
  refine lv_topi (fun x_3 ex_3 => ?_)
  have vx_3 := b_add (rfl : p1.toInt = _) (by decide : (1 : Int32).toInt = 1) ex_3 (by omega) (by omega)
  refine lv_aload_n hx hb dX9_scanSign_10 rfl (lv_at hl 1 rfl) ?_
  refine t_gi hx hb hts hown hK hB mh0 th0 fi_9_4 rfl mw_1_41 dX9_scanSign_11 (fun x_4 ex_4 lx_4 ux_4 => ?_)
  have cx_4 := congrArg Int32.toInt ex_4
  refine lv_icmp_ge (tgt := 34) hx hb dX9_scanSign_14 (by decide) (fun c_5 => ?_) (fun c_5 => ?_)
  · skip
    have uc_5 := j_le c_5
    refine lv_iconst (v := 0) hx hb dX9_scanSign_34 (by decide) ?_
    refine lv_istore_n (lv' := [(3, .int 0), (2, .int x_2), (0, .ref h0), (1, .int p1)]) hx hb dX9_scanSign_35 rfl hl (by decide) rfl (fun ls hl => ?_)
    refine lv_iload_n hx hb dX9_scanSign_36 rfl (lv_at hl 1 rfl) ?_
    refine lv_bipush (v := 60) hx hb dX9_scanSign_37 (by decide) ?_
    refine lv_icmp_ne (tgt := 59) hx hb dX9_scanSign_39 (by decide) (fun c_6 => ?_) (fun c_6 => ?_)
    · skip
      have uc_6 := i_ne (n := 60) (by decide) c_6
      refine lv_iload_n hx hb dX9_scanSign_59 rfl (lv_at hl 1 rfl) ?_
      refine lv_bipush (v := 62) hx hb dX9_scanSign_60 (by decide) ?_
      refine lv_icmp_ne (tgt := 82) hx hb dX9_scanSign_62 (by decide) (fun c_7 => ?_) (fun c_7 => ?_)
      · skip
        have uc_7 := i_ne (n := 62) (by decide) c_7
        refine lv_aload_n hx hb dX9_scanSign_82 rfl (lv_at hl 2 rfl) ?_
        refine va_ldcS hx hb hown hV.2.2.2.2 dX9_scanSign_83 ?_
        refine lv_iload_n hx hb dX9_scanSign_85 rfl (lv_at hl 1 rfl) ?_
        refine lv_i2c hx hb dX9_scanSign_86 rfl ?_
        refine lv_topi (fun x_8 ex_8 => ?_)
        obtain ⟨lx_8, ux_8⟩ := c_rng ex_8
        refine t_ci (va_runV (As := [.int x_8]) (rest := [.ref h0]) ⟨hx, hb, hml, hown, hts⟩ (cs_J0_indexOf_0f7a4_1 l D cA L T r hG hLA.1 σ ρ hB.2.1 _ adK adV x_8) (cV hts mv_J0_indexOf_0f7a4 mw_3_104 rfl rfl ⟨Nat.le_of_ble_eq_true rfl, Nat.le_of_ble_eq_true rfl⟩) (pK hB.1 hK hN (hV.to hS) (i := 1) (by decide)) rfl rfl hl.1 rfl (lv_room (Nat.le_of_ble_eq_true rfl)) dX9_scanSign_87 ⟨Nat.le_of_ble_eq_true rfl, Nat.le_of_ble_eq_true rfl⟩) hLA hA hB hS (by decide) (fun x_11 σ_9 ρ_10 H locs hB fσ_9 pσ_9 hS => ?_)
        have qσ_9 := FR.nil fσ_9
        subst qσ_9
        refine lv_if_lt (tgt := 97) hx hb dX9_scanSign_90 (by decide) (fun c_12 => ?_) (fun c_12 => ?_)
        · skip
          have uc_12 := i_lt (n := 0) (by decide) c_12
          refine lv_sipush (v := 132) hx hb dX9_scanSign_97 (by decide) ?_
          refine lv_iload_n hx hb dX9_scanSign_100 rfl (lv_at hl 3 rfl) ?_
          refine lv_iconst (v := 0) hx hb dX9_scanSign_101 (by decide) ?_
          refine t_cv (va_runV (As := [.int 132, .int p1, .int 0]) (rest := []) ⟨hx, hb, hml, hown, hts⟩ (cy_X9_put l D cA L T r hG hLA.1 σ ρ_10 hB.2.1 _ h0 mh0 th0 132 p1 0 (by first | omega | decide) (by first | omega | decide) (by first | omega | decide) (by first | omega | decide) (by first | omega | decide) (by first | omega | decide)) (cV hts mv_X9_put mw_3_35 rfl rfl ⟨Nat.le_of_ble_eq_true rfl, Nat.le_of_ble_eq_true rfl⟩) (pV hB.1 hK hN mh0 th0 (show shp cA 9 _ _ _ = .inr (9, Fs9 _ _ _) from rfl) rfl) rfl rfl hl.1 rfl (lv_room (Nat.le_of_ble_eq_true rfl)) dX9_scanSign_102 ⟨Nat.le_of_ble_eq_true rfl, Nat.le_of_ble_eq_true rfl⟩) hLA hA hB hS (by decide) (fun σ_13 ρ_14 H locs hB fσ_13 pσ_13 hS => ?_)
          refine lv_iload_n hx hb dX9_scanSign_105 rfl (lv_at hl 3 rfl) ?_
          refine lv_iconst (v := 1) hx hb dX9_scanSign_106 (by decide) ?_
          refine lv_iadd hx hb dX9_scanSign_107 ?_
          refine lv_topi (fun x_16 ex_16 => ?_)
          have vx_16 := b_add (rfl : p1.toInt = _) (by decide : (1 : Int32).toInt = 1) ex_16 (by omega) (by omega)
          exact W.iret (v := x_16) hx hb hr (fun t ht hW => ⟨⟨x_16, (σ_13, ρ_14), rfl, ⟨hB.2.1, hB.2.2, (show 0 ≤ (x_16 : Int32).toInt ∧ (x_16 : Int32).toInt ≤ 400 from ⟨by omega, by omega⟩)⟩, (show TP D cA L T r σ_13 ρ_14 t.heap from by rw [ht]; exact hB.1)⟩, hS.F ht⟩) hS.2.2 dX9_scanSign_108
        · skip
          have uc_12 := i_nlt (n := 0) (by decide) c_12
          refine lv_iload_n hx hb dX9_scanSign_93 rfl (lv_at hl 1 rfl) ?_
          refine lv_goto (tgt := 100) hx hb dX9_scanSign_94 (by decide) ?_
          refine lv_iload_n hx hb dX9_scanSign_100 rfl (lv_at hl 3 rfl) ?_
          refine lv_iconst (v := 0) hx hb dX9_scanSign_101 (by decide) ?_
          refine t_cv (va_runV (As := [.int x_2, .int p1, .int 0]) (rest := []) ⟨hx, hb, hml, hown, hts⟩ (cy_X9_put l D cA L T r hG hLA.1 σ ρ_10 hB.2.1 _ h0 mh0 th0 x_2 p1 0 (by first | omega | decide) (by first | omega | decide) (by first | omega | decide) (by first | omega | decide) (by first | omega | decide) (by first | omega | decide)) (cV hts mv_X9_put mw_3_35 rfl rfl ⟨Nat.le_of_ble_eq_true rfl, Nat.le_of_ble_eq_true rfl⟩) (pV hB.1 hK hN mh0 th0 (show shp cA 9 _ _ _ = .inr (9, Fs9 _ _ _) from rfl) rfl) rfl rfl hl.1 rfl (lv_room (Nat.le_of_ble_eq_true rfl)) dX9_scanSign_102 ⟨Nat.le_of_ble_eq_true rfl, Nat.le_of_ble_eq_true rfl⟩) hLA hA hB hS (by decide) (fun σ_17 ρ_18 H locs hB fσ_17 pσ_17 hS => ?_)
          refine lv_iload_n hx hb dX9_scanSign_105 rfl (lv_at hl 3 rfl) ?_
          refine lv_iconst (v := 1) hx hb dX9_scanSign_106 (by decide) ?_
          refine lv_iadd hx hb dX9_scanSign_107 ?_
          refine lv_topi (fun x_20 ex_20 => ?_)
          have vx_20 := b_add (rfl : p1.toInt = _) (by decide : (1 : Int32).toInt = 1) ex_20 (by omega) (by omega)
          exact W.iret (v := x_20) hx hb hr (fun t ht hW => ⟨⟨x_20, (σ_17, ρ_18), rfl, ⟨hB.2.1, hB.2.2, (show 0 ≤ (x_20 : Int32).toInt ∧ (x_20 : Int32).toInt ≤ 400 from ⟨by omega, by omega⟩)⟩, (show TP D cA L T r σ_17 ρ_18 t.heap from by rw [ht]; exact hB.1)⟩, hS.F ht⟩) hS.2.2 dX9_scanSign_108
      · skip
        have uc_7 := i_eq (n := 62) (by decide) c_7
        refine lv_iload_n hx hb dX9_scanSign_65 rfl (lv_at hl 0 rfl) ?_
        refine lv_if_eq (tgt := 82) hx hb dX9_scanSign_66 (by decide) (fun _ => ?_) (fun c9 => absurd (by decide) c9)
        refine lv_aload_n hx hb dX9_scanSign_82 rfl (lv_at hl 2 rfl) ?_
        refine va_ldcS hx hb hown hV.2.2.2.2 dX9_scanSign_83 ?_
        refine lv_iload_n hx hb dX9_scanSign_85 rfl (lv_at hl 1 rfl) ?_
        refine lv_i2c hx hb dX9_scanSign_86 rfl ?_
        refine lv_topi (fun x_21 ex_21 => ?_)
        obtain ⟨lx_21, ux_21⟩ := c_rng ex_21
        refine t_ci (va_runV (As := [.int x_21]) (rest := [.ref h0]) ⟨hx, hb, hml, hown, hts⟩ (cs_J0_indexOf_0f7a4_1 l D cA L T r hG hLA.1 σ ρ hB.2.1 _ adK adV x_21) (cV hts mv_J0_indexOf_0f7a4 mw_3_104 rfl rfl ⟨Nat.le_of_ble_eq_true rfl, Nat.le_of_ble_eq_true rfl⟩) (pK hB.1 hK hN (hV.to hS) (i := 1) (by decide)) rfl rfl hl.1 rfl (lv_room (Nat.le_of_ble_eq_true rfl)) dX9_scanSign_87 ⟨Nat.le_of_ble_eq_true rfl, Nat.le_of_ble_eq_true rfl⟩) hLA hA hB hS (by decide) (fun x_24 σ_22 ρ_23 H locs hB fσ_22 pσ_22 hS => ?_)
        have qσ_22 := FR.nil fσ_22
        subst qσ_22
        refine lv_if_lt (tgt := 97) hx hb dX9_scanSign_90 (by decide) (fun c_25 => ?_) (fun c_25 => ?_)
        · skip
          have uc_25 := i_lt (n := 0) (by decide) c_25
          refine lv_sipush (v := 132) hx hb dX9_scanSign_97 (by decide) ?_
          refine lv_iload_n hx hb dX9_scanSign_100 rfl (lv_at hl 3 rfl) ?_
          refine lv_iconst (v := 0) hx hb dX9_scanSign_101 (by decide) ?_
          refine t_cv (va_runV (As := [.int 132, .int p1, .int 0]) (rest := []) ⟨hx, hb, hml, hown, hts⟩ (cy_X9_put l D cA L T r hG hLA.1 σ ρ_23 hB.2.1 _ h0 mh0 th0 132 p1 0 (by first | omega | decide) (by first | omega | decide) (by first | omega | decide) (by first | omega | decide) (by first | omega | decide) (by first | omega | decide)) (cV hts mv_X9_put mw_3_35 rfl rfl ⟨Nat.le_of_ble_eq_true rfl, Nat.le_of_ble_eq_true rfl⟩) (pV hB.1 hK hN mh0 th0 (show shp cA 9 _ _ _ = .inr (9, Fs9 _ _ _) from rfl) rfl) rfl rfl hl.1 rfl (lv_room (Nat.le_of_ble_eq_true rfl)) dX9_scanSign_102 ⟨Nat.le_of_ble_eq_true rfl, Nat.le_of_ble_eq_true rfl⟩) hLA hA hB hS (by decide) (fun σ_26 ρ_27 H locs hB fσ_26 pσ_26 hS => ?_)
          refine lv_iload_n hx hb dX9_scanSign_105 rfl (lv_at hl 3 rfl) ?_
          refine lv_iconst (v := 1) hx hb dX9_scanSign_106 (by decide) ?_
          refine lv_iadd hx hb dX9_scanSign_107 ?_
          refine lv_topi (fun x_29 ex_29 => ?_)
          have vx_29 := b_add (rfl : p1.toInt = _) (by decide : (1 : Int32).toInt = 1) ex_29 (by omega) (by omega)
          exact W.iret (v := x_29) hx hb hr (fun t ht hW => ⟨⟨x_29, (σ_26, ρ_27), rfl, ⟨hB.2.1, hB.2.2, (show 0 ≤ (x_29 : Int32).toInt ∧ (x_29 : Int32).toInt ≤ 400 from ⟨by omega, by omega⟩)⟩, (show TP D cA L T r σ_26 ρ_27 t.heap from by rw [ht]; exact hB.1)⟩, hS.F ht⟩) hS.2.2 dX9_scanSign_108
        · skip
          have uc_25 := i_nlt (n := 0) (by decide) c_25
          refine lv_iload_n hx hb dX9_scanSign_93 rfl (lv_at hl 1 rfl) ?_
          refine lv_goto (tgt := 100) hx hb dX9_scanSign_94 (by decide) ?_
          refine lv_iload_n hx hb dX9_scanSign_100 rfl (lv_at hl 3 rfl) ?_
          refine lv_iconst (v := 0) hx hb dX9_scanSign_101 (by decide) ?_
          refine t_cv (va_runV (As := [.int x_2, .int p1, .int 0]) (rest := []) ⟨hx, hb, hml, hown, hts⟩ (cy_X9_put l D cA L T r hG hLA.1 σ ρ_23 hB.2.1 _ h0 mh0 th0 x_2 p1 0 (by first | omega | decide) (by first | omega | decide) (by first | omega | decide) (by first | omega | decide) (by first | omega | decide) (by first | omega | decide)) (cV hts mv_X9_put mw_3_35 rfl rfl ⟨Nat.le_of_ble_eq_true rfl, Nat.le_of_ble_eq_true rfl⟩) (pV hB.1 hK hN mh0 th0 (show shp cA 9 _ _ _ = .inr (9, Fs9 _ _ _) from rfl) rfl) rfl rfl hl.1 rfl (lv_room (Nat.le_of_ble_eq_true rfl)) dX9_scanSign_102 ⟨Nat.le_of_ble_eq_true rfl, Nat.le_of_ble_eq_true rfl⟩) hLA hA hB hS (by decide) (fun σ_30 ρ_31 H locs hB fσ_30 pσ_30 hS => ?_)
          refine lv_iload_n hx hb dX9_scanSign_105 rfl (lv_at hl 3 rfl) ?_
          refine lv_iconst (v := 1) hx hb dX9_scanSign_106 (by decide) ?_
          refine lv_iadd hx hb dX9_scanSign_107 ?_
          refine lv_topi (fun x_33 ex_33 => ?_)
          have vx_33 := b_add (rfl : p1.toInt = _) (by decide : (1 : Int32).toInt = 1) ex_33 (by omega) (by omega)
          exact W.iret (v := x_33) hx hb hr (fun t ht hW => ⟨⟨x_33, (σ_30, ρ_31), rfl, ⟨hB.2.1, hB.2.2, (show 0 ≤ (x_33 : Int32).toInt ∧ (x_33 : Int32).toInt ≤ 400 from ⟨by omega, by omega⟩)⟩, (show TP D cA L T r σ_30 ρ_31 t.heap from by rw [ht]; exact hB.1)⟩, hS.F ht⟩) hS.2.2 dX9_scanSign_108
    · skip
      have uc_6 := i_eq (n := 60) (by decide) c_6
      refine lv_iload_n hx hb dX9_scanSign_42 rfl (lv_at hl 0 rfl) ?_
      refine lv_if_eq (tgt := 59) hx hb dX9_scanSign_43 (by decide) (fun _ => ?_) (fun c9 => absurd (by decide) c9)
      refine lv_iload_n hx hb dX9_scanSign_59 rfl (lv_at hl 1 rfl) ?_
      refine lv_bipush (v := 62) hx hb dX9_scanSign_60 (by decide) ?_
      refine lv_icmp_ne (tgt := 82) hx hb dX9_scanSign_62 (by decide) (fun c_34 => ?_) (fun c_34 => ?_)
      · skip
        have uc_34 := i_ne (n := 62) (by decide) c_34
        refine lv_aload_n hx hb dX9_scanSign_82 rfl (lv_at hl 2 rfl) ?_
        refine va_ldcS hx hb hown hV.2.2.2.2 dX9_scanSign_83 ?_
        refine lv_iload_n hx hb dX9_scanSign_85 rfl (lv_at hl 1 rfl) ?_
        refine lv_i2c hx hb dX9_scanSign_86 rfl ?_
        refine lv_topi (fun x_35 ex_35 => ?_)
        obtain ⟨lx_35, ux_35⟩ := c_rng ex_35
        refine t_ci (va_runV (As := [.int x_35]) (rest := [.ref h0]) ⟨hx, hb, hml, hown, hts⟩ (cs_J0_indexOf_0f7a4_1 l D cA L T r hG hLA.1 σ ρ hB.2.1 _ adK adV x_35) (cV hts mv_J0_indexOf_0f7a4 mw_3_104 rfl rfl ⟨Nat.le_of_ble_eq_true rfl, Nat.le_of_ble_eq_true rfl⟩) (pK hB.1 hK hN (hV.to hS) (i := 1) (by decide)) rfl rfl hl.1 rfl (lv_room (Nat.le_of_ble_eq_true rfl)) dX9_scanSign_87 ⟨Nat.le_of_ble_eq_true rfl, Nat.le_of_ble_eq_true rfl⟩) hLA hA hB hS (by decide) (fun x_38 σ_36 ρ_37 H locs hB fσ_36 pσ_36 hS => ?_)
        have qσ_36 := FR.nil fσ_36
        subst qσ_36
        refine lv_if_lt (tgt := 97) hx hb dX9_scanSign_90 (by decide) (fun c_39 => ?_) (fun c_39 => ?_)
        · skip
          have uc_39 := i_lt (n := 0) (by decide) c_39
          refine lv_sipush (v := 132) hx hb dX9_scanSign_97 (by decide) ?_
          refine lv_iload_n hx hb dX9_scanSign_100 rfl (lv_at hl 3 rfl) ?_
          refine lv_iconst (v := 0) hx hb dX9_scanSign_101 (by decide) ?_
          refine t_cv (va_runV (As := [.int 132, .int p1, .int 0]) (rest := []) ⟨hx, hb, hml, hown, hts⟩ (cy_X9_put l D cA L T r hG hLA.1 σ ρ_37 hB.2.1 _ h0 mh0 th0 132 p1 0 (by first | omega | decide) (by first | omega | decide) (by first | omega | decide) (by first | omega | decide) (by first | omega | decide) (by first | omega | decide)) (cV hts mv_X9_put mw_3_35 rfl rfl ⟨Nat.le_of_ble_eq_true rfl, Nat.le_of_ble_eq_true rfl⟩) (pV hB.1 hK hN mh0 th0 (show shp cA 9 _ _ _ = .inr (9, Fs9 _ _ _) from rfl) rfl) rfl rfl hl.1 rfl (lv_room (Nat.le_of_ble_eq_true rfl)) dX9_scanSign_102 ⟨Nat.le_of_ble_eq_true rfl, Nat.le_of_ble_eq_true rfl⟩) hLA hA hB hS (by decide) (fun σ_40 ρ_41 H locs hB fσ_40 pσ_40 hS => ?_)
          refine lv_iload_n hx hb dX9_scanSign_105 rfl (lv_at hl 3 rfl) ?_
          refine lv_iconst (v := 1) hx hb dX9_scanSign_106 (by decide) ?_
          refine lv_iadd hx hb dX9_scanSign_107 ?_
          refine lv_topi (fun x_43 ex_43 => ?_)
          have vx_43 := b_add (rfl : p1.toInt = _) (by decide : (1 : Int32).toInt = 1) ex_43 (by omega) (by omega)
          exact W.iret (v := x_43) hx hb hr (fun t ht hW => ⟨⟨x_43, (σ_40, ρ_41), rfl, ⟨hB.2.1, hB.2.2, (show 0 ≤ (x_43 : Int32).toInt ∧ (x_43 : Int32).toInt ≤ 400 from ⟨by omega, by omega⟩)⟩, (show TP D cA L T r σ_40 ρ_41 t.heap from by rw [ht]; exact hB.1)⟩, hS.F ht⟩) hS.2.2 dX9_scanSign_108
        · skip
          have uc_39 := i_nlt (n := 0) (by decide) c_39
          refine lv_iload_n hx hb dX9_scanSign_93 rfl (lv_at hl 1 rfl) ?_
          refine lv_goto (tgt := 100) hx hb dX9_scanSign_94 (by decide) ?_
          refine lv_iload_n hx hb dX9_scanSign_100 rfl (lv_at hl 3 rfl) ?_
          refine lv_iconst (v := 0) hx hb dX9_scanSign_101 (by decide) ?_
          refine t_cv (va_runV (As := [.int x_2, .int p1, .int 0]) (rest := []) ⟨hx, hb, hml, hown, hts⟩ (cy_X9_put l D cA L T r hG hLA.1 σ ρ_37 hB.2.1 _ h0 mh0 th0 x_2 p1 0 (by first | omega | decide) (by first | omega | decide) (by first | omega | decide) (by first | omega | decide) (by first | omega | decide) (by first | omega | decide)) (cV hts mv_X9_put mw_3_35 rfl rfl ⟨Nat.le_of_ble_eq_true rfl, Nat.le_of_ble_eq_true rfl⟩) (pV hB.1 hK hN mh0 th0 (show shp cA 9 _ _ _ = .inr (9, Fs9 _ _ _) from rfl) rfl) rfl rfl hl.1 rfl (lv_room (Nat.le_of_ble_eq_true rfl)) dX9_scanSign_102 ⟨Nat.le_of_ble_eq_true rfl, Nat.le_of_ble_eq_true rfl⟩) hLA hA hB hS (by decide) (fun σ_44 ρ_45 H locs hB fσ_44 pσ_44 hS => ?_)
          refine lv_iload_n hx hb dX9_scanSign_105 rfl (lv_at hl 3 rfl) ?_
          refine lv_iconst (v := 1) hx hb dX9_scanSign_106 (by decide) ?_
          refine lv_iadd hx hb dX9_scanSign_107 ?_
          refine lv_topi (fun x_47 ex_47 => ?_)
          have vx_47 := b_add (rfl : p1.toInt = _) (by decide : (1 : Int32).toInt = 1) ex_47 (by omega) (by omega)
          exact W.iret (v := x_47) hx hb hr (fun t ht hW => ⟨⟨x_47, (σ_44, ρ_45), rfl, ⟨hB.2.1, hB.2.2, (show 0 ≤ (x_47 : Int32).toInt ∧ (x_47 : Int32).toInt ≤ 400 from ⟨by omega, by omega⟩)⟩, (show TP D cA L T r σ_44 ρ_45 t.heap from by rw [ht]; exact hB.1)⟩, hS.F ht⟩) hS.2.2 dX9_scanSign_108
      · skip
        have uc_34 := i_eq (n := 62) (by decide) c_34
        exfalso; omega
  · skip
    have uc_5 := j_nle c_5
    refine lv_aload_n hx hb dX9_scanSign_17 rfl (lv_at hl 1 rfl) ?_
    refine t_gk hx hb hts hown hK hB mh0 th0 fq_9_0 hb_1 mw_1_36 dX9_scanSign_18 ?_
    refine lv_iload_n hx hb dX9_scanSign_21 rfl (lv_at hl 2 rfl) ?_
    refine lv_iconst (v := 1) hx hb dX9_scanSign_22 (by decide) ?_
    refine lv_iadd hx hb dX9_scanSign_23 ?_
    refine lv_topi (fun x_48 ex_48 => ?_)
    have vx_48 := b_add (rfl : p1.toInt = _) (by decide : (1 : Int32).toInt = 1) ex_48 (by omega) (by omega)
    refine t_ai hx hb hK hB mb_1 tb_1 ai_51 (fun _ => rfl) (i_in (by omega) (by omega)) dX9_scanSign_24 (fun x_49 ex_49 lx_49 ux_49 => ?_)
    have cx_49 := congrArg Int32.toInt ex_49
    refine lv_bipush (v := 61) hx hb dX9_scanSign_25 (by decide) ?_
    refine lv_icmp_ne (tgt := 34) hx hb dX9_scanSign_27 (by decide) (fun c_50 => ?_) (fun c_50 => ?_)
    · skip
      have uc_50 := i_ne (n := 61) (by decide) c_50
      refine lv_iconst (v := 0) hx hb dX9_scanSign_34 (by decide) ?_
      refine lv_istore_n (lv' := [(3, .int 0), (2, .int x_2), (0, .ref h0), (1, .int p1)]) hx hb dX9_scanSign_35 rfl hl (by decide) rfl (fun ls hl => ?_)
      refine lv_iload_n hx hb dX9_scanSign_36 rfl (lv_at hl 1 rfl) ?_
      refine lv_bipush (v := 60) hx hb dX9_scanSign_37 (by decide) ?_
      refine lv_icmp_ne (tgt := 59) hx hb dX9_scanSign_39 (by decide) (fun c_51 => ?_) (fun c_51 => ?_)
      · skip
        have uc_51 := i_ne (n := 60) (by decide) c_51
        refine lv_iload_n hx hb dX9_scanSign_59 rfl (lv_at hl 1 rfl) ?_
        refine lv_bipush (v := 62) hx hb dX9_scanSign_60 (by decide) ?_
        refine lv_icmp_ne (tgt := 82) hx hb dX9_scanSign_62 (by decide) (fun c_52 => ?_) (fun c_52 => ?_)
        · skip
          have uc_52 := i_ne (n := 62) (by decide) c_52
          refine lv_aload_n hx hb dX9_scanSign_82 rfl (lv_at hl 2 rfl) ?_
          refine va_ldcS hx hb hown hV.2.2.2.2 dX9_scanSign_83 ?_
          refine lv_iload_n hx hb dX9_scanSign_85 rfl (lv_at hl 1 rfl) ?_
          refine lv_i2c hx hb dX9_scanSign_86 rfl ?_
          refine lv_topi (fun x_53 ex_53 => ?_)
          obtain ⟨lx_53, ux_53⟩ := c_rng ex_53
          refine t_ci (va_runV (As := [.int x_53]) (rest := [.ref h0]) ⟨hx, hb, hml, hown, hts⟩ (cs_J0_indexOf_0f7a4_1 l D cA L T r hG hLA.1 σ ρ hB.2.1 _ adK adV x_53) (cV hts mv_J0_indexOf_0f7a4 mw_3_104 rfl rfl ⟨Nat.le_of_ble_eq_true rfl, Nat.le_of_ble_eq_true rfl⟩) (pK hB.1 hK hN (hV.to hS) (i := 1) (by decide)) rfl rfl hl.1 rfl (lv_room (Nat.le_of_ble_eq_true rfl)) dX9_scanSign_87 ⟨Nat.le_of_ble_eq_true rfl, Nat.le_of_ble_eq_true rfl⟩) hLA hA hB hS (by decide) (fun x_56 σ_54 ρ_55 H locs hB fσ_54 pσ_54 hS => ?_)
          have qσ_54 := FR.nil fσ_54
          subst qσ_54
          refine lv_if_lt (tgt := 97) hx hb dX9_scanSign_90 (by decide) (fun c_57 => ?_) (fun c_57 => ?_)
          · skip
            have uc_57 := i_lt (n := 0) (by decide) c_57
            refine lv_sipush (v := 132) hx hb dX9_scanSign_97 (by decide) ?_
            refine lv_iload_n hx hb dX9_scanSign_100 rfl (lv_at hl 3 rfl) ?_
            refine lv_iconst (v := 0) hx hb dX9_scanSign_101 (by decide) ?_
            refine t_cv (va_runV (As := [.int 132, .int p1, .int 0]) (rest := []) ⟨hx, hb, hml, hown, hts⟩ (cy_X9_put l D cA L T r hG hLA.1 σ ρ_55 hB.2.1 _ h0 mh0 th0 132 p1 0 (by first | omega | decide) (by first | omega | decide) (by first | omega | decide) (by first | omega | decide) (by first | omega | decide) (by first | omega | decide)) (cV hts mv_X9_put mw_3_35 rfl rfl ⟨Nat.le_of_ble_eq_true rfl, Nat.le_of_ble_eq_true rfl⟩) (pV hB.1 hK hN mh0 th0 (show shp cA 9 _ _ _ = .inr (9, Fs9 _ _ _) from rfl) rfl) rfl rfl hl.1 rfl (lv_room (Nat.le_of_ble_eq_true rfl)) dX9_scanSign_102 ⟨Nat.le_of_ble_eq_true rfl, Nat.le_of_ble_eq_true rfl⟩) hLA hA hB hS (by decide) (fun σ_58 ρ_59 H locs hB fσ_58 pσ_58 hS => ?_)
            refine lv_iload_n hx hb dX9_scanSign_105 rfl (lv_at hl 3 rfl) ?_
            refine lv_iconst (v := 1) hx hb dX9_scanSign_106 (by decide) ?_
            refine lv_iadd hx hb dX9_scanSign_107 ?_
            refine lv_topi (fun x_61 ex_61 => ?_)
            have vx_61 := b_add (rfl : p1.toInt = _) (by decide : (1 : Int32).toInt = 1) ex_61 (by omega) (by omega)
            exact W.iret (v := x_61) hx hb hr (fun t ht hW => ⟨⟨x_61, (σ_58, ρ_59), rfl, ⟨hB.2.1, hB.2.2, (show 0 ≤ (x_61 : Int32).toInt ∧ (x_61 : Int32).toInt ≤ 400 from ⟨by omega, by omega⟩)⟩, (show TP D cA L T r σ_58 ρ_59 t.heap from by rw [ht]; exact hB.1)⟩, hS.F ht⟩) hS.2.2 dX9_scanSign_108
          · skip
            have uc_57 := i_nlt (n := 0) (by decide) c_57
            refine lv_iload_n hx hb dX9_scanSign_93 rfl (lv_at hl 1 rfl) ?_
            refine lv_goto (tgt := 100) hx hb dX9_scanSign_94 (by decide) ?_
            refine lv_iload_n hx hb dX9_scanSign_100 rfl (lv_at hl 3 rfl) ?_
            refine lv_iconst (v := 0) hx hb dX9_scanSign_101 (by decide) ?_
            refine t_cv (va_runV (As := [.int x_2, .int p1, .int 0]) (rest := []) ⟨hx, hb, hml, hown, hts⟩ (cy_X9_put l D cA L T r hG hLA.1 σ ρ_55 hB.2.1 _ h0 mh0 th0 x_2 p1 0 (by first | omega | decide) (by first | omega | decide) (by first | omega | decide) (by first | omega | decide) (by first | omega | decide) (by first | omega | decide)) (cV hts mv_X9_put mw_3_35 rfl rfl ⟨Nat.le_of_ble_eq_true rfl, Nat.le_of_ble_eq_true rfl⟩) (pV hB.1 hK hN mh0 th0 (show shp cA 9 _ _ _ = .inr (9, Fs9 _ _ _) from rfl) rfl) rfl rfl hl.1 rfl (lv_room (Nat.le_of_ble_eq_true rfl)) dX9_scanSign_102 ⟨Nat.le_of_ble_eq_true rfl, Nat.le_of_ble_eq_true rfl⟩) hLA hA hB hS (by decide) (fun σ_62 ρ_63 H locs hB fσ_62 pσ_62 hS => ?_)
            refine lv_iload_n hx hb dX9_scanSign_105 rfl (lv_at hl 3 rfl) ?_
            refine lv_iconst (v := 1) hx hb dX9_scanSign_106 (by decide) ?_
            refine lv_iadd hx hb dX9_scanSign_107 ?_
            refine lv_topi (fun x_65 ex_65 => ?_)
            have vx_65 := b_add (rfl : p1.toInt = _) (by decide : (1 : Int32).toInt = 1) ex_65 (by omega) (by omega)
            exact W.iret (v := x_65) hx hb hr (fun t ht hW => ⟨⟨x_65, (σ_62, ρ_63), rfl, ⟨hB.2.1, hB.2.2, (show 0 ≤ (x_65 : Int32).toInt ∧ (x_65 : Int32).toInt ≤ 400 from ⟨by omega, by omega⟩)⟩, (show TP D cA L T r σ_62 ρ_63 t.heap from by rw [ht]; exact hB.1)⟩, hS.F ht⟩) hS.2.2 dX9_scanSign_108
        · skip
          have uc_52 := i_eq (n := 62) (by decide) c_52
          refine lv_iload_n hx hb dX9_scanSign_65 rfl (lv_at hl 0 rfl) ?_
          refine lv_if_eq (tgt := 82) hx hb dX9_scanSign_66 (by decide) (fun _ => ?_) (fun c9 => absurd (by decide) c9)
          refine lv_aload_n hx hb dX9_scanSign_82 rfl (lv_at hl 2 rfl) ?_
          refine va_ldcS hx hb hown hV.2.2.2.2 dX9_scanSign_83 ?_
          refine lv_iload_n hx hb dX9_scanSign_85 rfl (lv_at hl 1 rfl) ?_
          refine lv_i2c hx hb dX9_scanSign_86 rfl ?_
          refine lv_topi (fun x_66 ex_66 => ?_)
          obtain ⟨lx_66, ux_66⟩ := c_rng ex_66
          refine t_ci (va_runV (As := [.int x_66]) (rest := [.ref h0]) ⟨hx, hb, hml, hown, hts⟩ (cs_J0_indexOf_0f7a4_1 l D cA L T r hG hLA.1 σ ρ hB.2.1 _ adK adV x_66) (cV hts mv_J0_indexOf_0f7a4 mw_3_104 rfl rfl ⟨Nat.le_of_ble_eq_true rfl, Nat.le_of_ble_eq_true rfl⟩) (pK hB.1 hK hN (hV.to hS) (i := 1) (by decide)) rfl rfl hl.1 rfl (lv_room (Nat.le_of_ble_eq_true rfl)) dX9_scanSign_87 ⟨Nat.le_of_ble_eq_true rfl, Nat.le_of_ble_eq_true rfl⟩) hLA hA hB hS (by decide) (fun x_69 σ_67 ρ_68 H locs hB fσ_67 pσ_67 hS => ?_)
          have qσ_67 := FR.nil fσ_67
          subst qσ_67
          refine lv_if_lt (tgt := 97) hx hb dX9_scanSign_90 (by decide) (fun c_70 => ?_) (fun c_70 => ?_)
          · skip
            have uc_70 := i_lt (n := 0) (by decide) c_70
            refine lv_sipush (v := 132) hx hb dX9_scanSign_97 (by decide) ?_
            refine lv_iload_n hx hb dX9_scanSign_100 rfl (lv_at hl 3 rfl) ?_
            refine lv_iconst (v := 0) hx hb dX9_scanSign_101 (by decide) ?_
            refine t_cv (va_runV (As := [.int 132, .int p1, .int 0]) (rest := []) ⟨hx, hb, hml, hown, hts⟩ (cy_X9_put l D cA L T r hG hLA.1 σ ρ_68 hB.2.1 _ h0 mh0 th0 132 p1 0 (by first | omega | decide) (by first | omega | decide) (by first | omega | decide) (by first | omega | decide) (by first | omega | decide) (by first | omega | decide)) (cV hts mv_X9_put mw_3_35 rfl rfl ⟨Nat.le_of_ble_eq_true rfl, Nat.le_of_ble_eq_true rfl⟩) (pV hB.1 hK hN mh0 th0 (show shp cA 9 _ _ _ = .inr (9, Fs9 _ _ _) from rfl) rfl) rfl rfl hl.1 rfl (lv_room (Nat.le_of_ble_eq_true rfl)) dX9_scanSign_102 ⟨Nat.le_of_ble_eq_true rfl, Nat.le_of_ble_eq_true rfl⟩) hLA hA hB hS (by decide) (fun σ_71 ρ_72 H locs hB fσ_71 pσ_71 hS => ?_)
            refine lv_iload_n hx hb dX9_scanSign_105 rfl (lv_at hl 3 rfl) ?_
            refine lv_iconst (v := 1) hx hb dX9_scanSign_106 (by decide) ?_
            refine lv_iadd hx hb dX9_scanSign_107 ?_
            refine lv_topi (fun x_74 ex_74 => ?_)
            have vx_74 := b_add (rfl : p1.toInt = _) (by decide : (1 : Int32).toInt = 1) ex_74 (by omega) (by omega)
            exact W.iret (v := x_74) hx hb hr (fun t ht hW => ⟨⟨x_74, (σ_71, ρ_72), rfl, ⟨hB.2.1, hB.2.2, (show 0 ≤ (x_74 : Int32).toInt ∧ (x_74 : Int32).toInt ≤ 400 from ⟨by omega, by omega⟩)⟩, (show TP D cA L T r σ_71 ρ_72 t.heap from by rw [ht]; exact hB.1)⟩, hS.F ht⟩) hS.2.2 dX9_scanSign_108
          · skip
            have uc_70 := i_nlt (n := 0) (by decide) c_70
            refine lv_iload_n hx hb dX9_scanSign_93 rfl (lv_at hl 1 rfl) ?_
            refine lv_goto (tgt := 100) hx hb dX9_scanSign_94 (by decide) ?_
            refine lv_iload_n hx hb dX9_scanSign_100 rfl (lv_at hl 3 rfl) ?_
            refine lv_iconst (v := 0) hx hb dX9_scanSign_101 (by decide) ?_
            refine t_cv (va_runV (As := [.int x_2, .int p1, .int 0]) (rest := []) ⟨hx, hb, hml, hown, hts⟩ (cy_X9_put l D cA L T r hG hLA.1 σ ρ_68 hB.2.1 _ h0 mh0 th0 x_2 p1 0 (by first | omega | decide) (by first | omega | decide) (by first | omega | decide) (by first | omega | decide) (by first | omega | decide) (by first | omega | decide)) (cV hts mv_X9_put mw_3_35 rfl rfl ⟨Nat.le_of_ble_eq_true rfl, Nat.le_of_ble_eq_true rfl⟩) (pV hB.1 hK hN mh0 th0 (show shp cA 9 _ _ _ = .inr (9, Fs9 _ _ _) from rfl) rfl) rfl rfl hl.1 rfl (lv_room (Nat.le_of_ble_eq_true rfl)) dX9_scanSign_102 ⟨Nat.le_of_ble_eq_true rfl, Nat.le_of_ble_eq_true rfl⟩) hLA hA hB hS (by decide) (fun σ_75 ρ_76 H locs hB fσ_75 pσ_75 hS => ?_)
            refine lv_iload_n hx hb dX9_scanSign_105 rfl (lv_at hl 3 rfl) ?_
            refine lv_iconst (v := 1) hx hb dX9_scanSign_106 (by decide) ?_
            refine lv_iadd hx hb dX9_scanSign_107 ?_
            refine lv_topi (fun x_78 ex_78 => ?_)
            have vx_78 := b_add (rfl : p1.toInt = _) (by decide : (1 : Int32).toInt = 1) ex_78 (by omega) (by omega)
            exact W.iret (v := x_78) hx hb hr (fun t ht hW => ⟨⟨x_78, (σ_75, ρ_76), rfl, ⟨hB.2.1, hB.2.2, (show 0 ≤ (x_78 : Int32).toInt ∧ (x_78 : Int32).toInt ≤ 400 from ⟨by omega, by omega⟩)⟩, (show TP D cA L T r σ_75 ρ_76 t.heap from by rw [ht]; exact hB.1)⟩, hS.F ht⟩) hS.2.2 dX9_scanSign_108
      · skip
        have uc_51 := i_eq (n := 60) (by decide) c_51
        refine lv_iload_n hx hb dX9_scanSign_42 rfl (lv_at hl 0 rfl) ?_
        refine lv_if_eq (tgt := 59) hx hb dX9_scanSign_43 (by decide) (fun _ => ?_) (fun c9 => absurd (by decide) c9)
        refine lv_iload_n hx hb dX9_scanSign_59 rfl (lv_at hl 1 rfl) ?_
        refine lv_bipush (v := 62) hx hb dX9_scanSign_60 (by decide) ?_
        refine lv_icmp_ne (tgt := 82) hx hb dX9_scanSign_62 (by decide) (fun c_79 => ?_) (fun c_79 => ?_)
        · skip
          have uc_79 := i_ne (n := 62) (by decide) c_79
          refine lv_aload_n hx hb dX9_scanSign_82 rfl (lv_at hl 2 rfl) ?_
          refine va_ldcS hx hb hown hV.2.2.2.2 dX9_scanSign_83 ?_
          refine lv_iload_n hx hb dX9_scanSign_85 rfl (lv_at hl 1 rfl) ?_
          refine lv_i2c hx hb dX9_scanSign_86 rfl ?_
          refine lv_topi (fun x_80 ex_80 => ?_)
          obtain ⟨lx_80, ux_80⟩ := c_rng ex_80
          refine t_ci (va_runV (As := [.int x_80]) (rest := [.ref h0]) ⟨hx, hb, hml, hown, hts⟩ (cs_J0_indexOf_0f7a4_1 l D cA L T r hG hLA.1 σ ρ hB.2.1 _ adK adV x_80) (cV hts mv_J0_indexOf_0f7a4 mw_3_104 rfl rfl ⟨Nat.le_of_ble_eq_true rfl, Nat.le_of_ble_eq_true rfl⟩) (pK hB.1 hK hN (hV.to hS) (i := 1) (by decide)) rfl rfl hl.1 rfl (lv_room (Nat.le_of_ble_eq_true rfl)) dX9_scanSign_87 ⟨Nat.le_of_ble_eq_true rfl, Nat.le_of_ble_eq_true rfl⟩) hLA hA hB hS (by decide) (fun x_83 σ_81 ρ_82 H locs hB fσ_81 pσ_81 hS => ?_)
          have qσ_81 := FR.nil fσ_81
          subst qσ_81
          refine lv_if_lt (tgt := 97) hx hb dX9_scanSign_90 (by decide) (fun c_84 => ?_) (fun c_84 => ?_)
          · skip
            have uc_84 := i_lt (n := 0) (by decide) c_84
            refine lv_sipush (v := 132) hx hb dX9_scanSign_97 (by decide) ?_
            refine lv_iload_n hx hb dX9_scanSign_100 rfl (lv_at hl 3 rfl) ?_
            refine lv_iconst (v := 0) hx hb dX9_scanSign_101 (by decide) ?_
            refine t_cv (va_runV (As := [.int 132, .int p1, .int 0]) (rest := []) ⟨hx, hb, hml, hown, hts⟩ (cy_X9_put l D cA L T r hG hLA.1 σ ρ_82 hB.2.1 _ h0 mh0 th0 132 p1 0 (by first | omega | decide) (by first | omega | decide) (by first | omega | decide) (by first | omega | decide) (by first | omega | decide) (by first | omega | decide)) (cV hts mv_X9_put mw_3_35 rfl rfl ⟨Nat.le_of_ble_eq_true rfl, Nat.le_of_ble_eq_true rfl⟩) (pV hB.1 hK hN mh0 th0 (show shp cA 9 _ _ _ = .inr (9, Fs9 _ _ _) from rfl) rfl) rfl rfl hl.1 rfl (lv_room (Nat.le_of_ble_eq_true rfl)) dX9_scanSign_102 ⟨Nat.le_of_ble_eq_true rfl, Nat.le_of_ble_eq_true rfl⟩) hLA hA hB hS (by decide) (fun σ_85 ρ_86 H locs hB fσ_85 pσ_85 hS => ?_)
            refine lv_iload_n hx hb dX9_scanSign_105 rfl (lv_at hl 3 rfl) ?_
            refine lv_iconst (v := 1) hx hb dX9_scanSign_106 (by decide) ?_
            refine lv_iadd hx hb dX9_scanSign_107 ?_
            refine lv_topi (fun x_88 ex_88 => ?_)
            have vx_88 := b_add (rfl : p1.toInt = _) (by decide : (1 : Int32).toInt = 1) ex_88 (by omega) (by omega)
            exact W.iret (v := x_88) hx hb hr (fun t ht hW => ⟨⟨x_88, (σ_85, ρ_86), rfl, ⟨hB.2.1, hB.2.2, (show 0 ≤ (x_88 : Int32).toInt ∧ (x_88 : Int32).toInt ≤ 400 from ⟨by omega, by omega⟩)⟩, (show TP D cA L T r σ_85 ρ_86 t.heap from by rw [ht]; exact hB.1)⟩, hS.F ht⟩) hS.2.2 dX9_scanSign_108
          · skip
            have uc_84 := i_nlt (n := 0) (by decide) c_84
            refine lv_iload_n hx hb dX9_scanSign_93 rfl (lv_at hl 1 rfl) ?_
            refine lv_goto (tgt := 100) hx hb dX9_scanSign_94 (by decide) ?_
            refine lv_iload_n hx hb dX9_scanSign_100 rfl (lv_at hl 3 rfl) ?_
            refine lv_iconst (v := 0) hx hb dX9_scanSign_101 (by decide) ?_
            refine t_cv (va_runV (As := [.int x_2, .int p1, .int 0]) (rest := []) ⟨hx, hb, hml, hown, hts⟩ (cy_X9_put l D cA L T r hG hLA.1 σ ρ_82 hB.2.1 _ h0 mh0 th0 x_2 p1 0 (by first | omega | decide) (by first | omega | decide) (by first | omega | decide) (by first | omega | decide) (by first | omega | decide) (by first | omega | decide)) (cV hts mv_X9_put mw_3_35 rfl rfl ⟨Nat.le_of_ble_eq_true rfl, Nat.le_of_ble_eq_true rfl⟩) (pV hB.1 hK hN mh0 th0 (show shp cA 9 _ _ _ = .inr (9, Fs9 _ _ _) from rfl) rfl) rfl rfl hl.1 rfl (lv_room (Nat.le_of_ble_eq_true rfl)) dX9_scanSign_102 ⟨Nat.le_of_ble_eq_true rfl, Nat.le_of_ble_eq_true rfl⟩) hLA hA hB hS (by decide) (fun σ_89 ρ_90 H locs hB fσ_89 pσ_89 hS => ?_)
            refine lv_iload_n hx hb dX9_scanSign_105 rfl (lv_at hl 3 rfl) ?_
            refine lv_iconst (v := 1) hx hb dX9_scanSign_106 (by decide) ?_
            refine lv_iadd hx hb dX9_scanSign_107 ?_
            refine lv_topi (fun x_92 ex_92 => ?_)
            have vx_92 := b_add (rfl : p1.toInt = _) (by decide : (1 : Int32).toInt = 1) ex_92 (by omega) (by omega)
            exact W.iret (v := x_92) hx hb hr (fun t ht hW => ⟨⟨x_92, (σ_89, ρ_90), rfl, ⟨hB.2.1, hB.2.2, (show 0 ≤ (x_92 : Int32).toInt ∧ (x_92 : Int32).toInt ≤ 400 from ⟨by omega, by omega⟩)⟩, (show TP D cA L T r σ_89 ρ_90 t.heap from by rw [ht]; exact hB.1)⟩, hS.F ht⟩) hS.2.2 dX9_scanSign_108
        · skip
          have uc_79 := i_eq (n := 62) (by decide) c_79
          exfalso; omega
    · skip
      have uc_50 := i_eq (n := 61) (by decide) c_50
      refine lv_iconst (v := 1) hx hb dX9_scanSign_30 (by decide) ?_
      refine lv_goto (tgt := 35) hx hb dX9_scanSign_31 (by decide) ?_
      refine lv_istore_n (lv' := [(3, .int 1), (2, .int x_2), (0, .ref h0), (1, .int p1)]) hx hb dX9_scanSign_35 rfl hl (by decide) rfl (fun ls hl => ?_)
      refine lv_iload_n hx hb dX9_scanSign_36 rfl (lv_at hl 1 rfl) ?_
      refine lv_bipush (v := 60) hx hb dX9_scanSign_37 (by decide) ?_
      refine lv_icmp_ne (tgt := 59) hx hb dX9_scanSign_39 (by decide) (fun c_93 => ?_) (fun c_93 => ?_)
      · skip
        have uc_93 := i_ne (n := 60) (by decide) c_93
        refine lv_iload_n hx hb dX9_scanSign_59 rfl (lv_at hl 1 rfl) ?_
        refine lv_bipush (v := 62) hx hb dX9_scanSign_60 (by decide) ?_
        refine lv_icmp_ne (tgt := 82) hx hb dX9_scanSign_62 (by decide) (fun c_94 => ?_) (fun c_94 => ?_)
        · skip
          have uc_94 := i_ne (n := 62) (by decide) c_94
          refine lv_aload_n hx hb dX9_scanSign_82 rfl (lv_at hl 2 rfl) ?_
          refine va_ldcS hx hb hown hV.2.2.2.2 dX9_scanSign_83 ?_
          refine lv_iload_n hx hb dX9_scanSign_85 rfl (lv_at hl 1 rfl) ?_
          refine lv_i2c hx hb dX9_scanSign_86 rfl ?_
          refine lv_topi (fun x_95 ex_95 => ?_)
          obtain ⟨lx_95, ux_95⟩ := c_rng ex_95
          refine t_ci (va_runV (As := [.int x_95]) (rest := [.ref h0]) ⟨hx, hb, hml, hown, hts⟩ (cs_J0_indexOf_0f7a4_1 l D cA L T r hG hLA.1 σ ρ hB.2.1 _ adK adV x_95) (cV hts mv_J0_indexOf_0f7a4 mw_3_104 rfl rfl ⟨Nat.le_of_ble_eq_true rfl, Nat.le_of_ble_eq_true rfl⟩) (pK hB.1 hK hN (hV.to hS) (i := 1) (by decide)) rfl rfl hl.1 rfl (lv_room (Nat.le_of_ble_eq_true rfl)) dX9_scanSign_87 ⟨Nat.le_of_ble_eq_true rfl, Nat.le_of_ble_eq_true rfl⟩) hLA hA hB hS (by decide) (fun x_98 σ_96 ρ_97 H locs hB fσ_96 pσ_96 hS => ?_)
          have qσ_96 := FR.nil fσ_96
          subst qσ_96
          refine lv_if_lt (tgt := 97) hx hb dX9_scanSign_90 (by decide) (fun c_99 => ?_) (fun c_99 => ?_)
          · skip
            have uc_99 := i_lt (n := 0) (by decide) c_99
            refine lv_sipush (v := 132) hx hb dX9_scanSign_97 (by decide) ?_
            refine lv_iload_n hx hb dX9_scanSign_100 rfl (lv_at hl 3 rfl) ?_
            refine lv_iconst (v := 0) hx hb dX9_scanSign_101 (by decide) ?_
            refine t_cv (va_runV (As := [.int 132, .int p1, .int 0]) (rest := []) ⟨hx, hb, hml, hown, hts⟩ (cy_X9_put l D cA L T r hG hLA.1 σ ρ_97 hB.2.1 _ h0 mh0 th0 132 p1 0 (by first | omega | decide) (by first | omega | decide) (by first | omega | decide) (by first | omega | decide) (by first | omega | decide) (by first | omega | decide)) (cV hts mv_X9_put mw_3_35 rfl rfl ⟨Nat.le_of_ble_eq_true rfl, Nat.le_of_ble_eq_true rfl⟩) (pV hB.1 hK hN mh0 th0 (show shp cA 9 _ _ _ = .inr (9, Fs9 _ _ _) from rfl) rfl) rfl rfl hl.1 rfl (lv_room (Nat.le_of_ble_eq_true rfl)) dX9_scanSign_102 ⟨Nat.le_of_ble_eq_true rfl, Nat.le_of_ble_eq_true rfl⟩) hLA hA hB hS (by decide) (fun σ_100 ρ_101 H locs hB fσ_100 pσ_100 hS => ?_)
            refine lv_iload_n hx hb dX9_scanSign_105 rfl (lv_at hl 3 rfl) ?_
            refine lv_iconst (v := 1) hx hb dX9_scanSign_106 (by decide) ?_
            refine lv_iadd hx hb dX9_scanSign_107 ?_
            refine lv_topi (fun x_103 ex_103 => ?_)
            have vx_103 := b_add (rfl : p1.toInt = _) (by decide : (1 : Int32).toInt = 1) ex_103 (by omega) (by omega)
            exact W.iret (v := x_103) hx hb hr (fun t ht hW => ⟨⟨x_103, (σ_100, ρ_101), rfl, ⟨hB.2.1, hB.2.2, (show 0 ≤ (x_103 : Int32).toInt ∧ (x_103 : Int32).toInt ≤ 400 from ⟨by omega, by omega⟩)⟩, (show TP D cA L T r σ_100 ρ_101 t.heap from by rw [ht]; exact hB.1)⟩, hS.F ht⟩) hS.2.2 dX9_scanSign_108
          · skip
            have uc_99 := i_nlt (n := 0) (by decide) c_99
            refine lv_iload_n hx hb dX9_scanSign_93 rfl (lv_at hl 1 rfl) ?_
            refine lv_goto (tgt := 100) hx hb dX9_scanSign_94 (by decide) ?_
            refine lv_iload_n hx hb dX9_scanSign_100 rfl (lv_at hl 3 rfl) ?_
            refine lv_iconst (v := 0) hx hb dX9_scanSign_101 (by decide) ?_
            refine t_cv (va_runV (As := [.int x_2, .int p1, .int 0]) (rest := []) ⟨hx, hb, hml, hown, hts⟩ (cy_X9_put l D cA L T r hG hLA.1 σ ρ_97 hB.2.1 _ h0 mh0 th0 x_2 p1 0 (by first | omega | decide) (by first | omega | decide) (by first | omega | decide) (by first | omega | decide) (by first | omega | decide) (by first | omega | decide)) (cV hts mv_X9_put mw_3_35 rfl rfl ⟨Nat.le_of_ble_eq_true rfl, Nat.le_of_ble_eq_true rfl⟩) (pV hB.1 hK hN mh0 th0 (show shp cA 9 _ _ _ = .inr (9, Fs9 _ _ _) from rfl) rfl) rfl rfl hl.1 rfl (lv_room (Nat.le_of_ble_eq_true rfl)) dX9_scanSign_102 ⟨Nat.le_of_ble_eq_true rfl, Nat.le_of_ble_eq_true rfl⟩) hLA hA hB hS (by decide) (fun σ_104 ρ_105 H locs hB fσ_104 pσ_104 hS => ?_)
            refine lv_iload_n hx hb dX9_scanSign_105 rfl (lv_at hl 3 rfl) ?_
            refine lv_iconst (v := 1) hx hb dX9_scanSign_106 (by decide) ?_
            refine lv_iadd hx hb dX9_scanSign_107 ?_
            refine lv_topi (fun x_107 ex_107 => ?_)
            have vx_107 := b_add (rfl : p1.toInt = _) (by decide : (1 : Int32).toInt = 1) ex_107 (by omega) (by omega)
            exact W.iret (v := x_107) hx hb hr (fun t ht hW => ⟨⟨x_107, (σ_104, ρ_105), rfl, ⟨hB.2.1, hB.2.2, (show 0 ≤ (x_107 : Int32).toInt ∧ (x_107 : Int32).toInt ≤ 400 from ⟨by omega, by omega⟩)⟩, (show TP D cA L T r σ_104 ρ_105 t.heap from by rw [ht]; exact hB.1)⟩, hS.F ht⟩) hS.2.2 dX9_scanSign_108
        · skip
          have uc_94 := i_eq (n := 62) (by decide) c_94
          refine lv_iload_n hx hb dX9_scanSign_65 rfl (lv_at hl 0 rfl) ?_
          refine lv_if_eq (tgt := 82) hx hb dX9_scanSign_66 (by decide) (fun c9 => absurd c9 (by decide)) (fun _ => ?_)
          refine lv_aload_n hx hb dX9_scanSign_69 rfl (lv_at hl 2 rfl) ?_
          refine lv_sipush (v := 129) hx hb dX9_scanSign_70 (by decide) ?_
          refine lv_iload_n hx hb dX9_scanSign_73 rfl (lv_at hl 3 rfl) ?_
          refine lv_iconst (v := 0) hx hb dX9_scanSign_74 (by decide) ?_
          refine t_cv (va_runV (As := [.int 129, .int p1, .int 0]) (rest := []) ⟨hx, hb, hml, hown, hts⟩ (cy_X9_put l D cA L T r hG hLA.1 σ ρ hB.2.1 _ h0 mh0 th0 129 p1 0 (by first | omega | decide) (by first | omega | decide) (by first | omega | decide) (by first | omega | decide) (by first | omega | decide) (by first | omega | decide)) (cV hts mv_X9_put mw_3_35 rfl rfl ⟨Nat.le_of_ble_eq_true rfl, Nat.le_of_ble_eq_true rfl⟩) (pV hB.1 hK hN mh0 th0 (show shp cA 9 _ _ _ = .inr (9, Fs9 _ _ _) from rfl) rfl) rfl rfl hl.1 rfl (lv_room (Nat.le_of_ble_eq_true rfl)) dX9_scanSign_75 ⟨Nat.le_of_ble_eq_true rfl, Nat.le_of_ble_eq_true rfl⟩) hLA hA hB hS (by decide) (fun σ_108 ρ_109 H locs hB fσ_108 pσ_108 hS => ?_)
          refine lv_iload_n hx hb dX9_scanSign_78 rfl (lv_at hl 3 rfl) ?_
          refine lv_iconst (v := 2) hx hb dX9_scanSign_79 (by decide) ?_
          refine lv_iadd hx hb dX9_scanSign_80 ?_
          refine lv_topi (fun x_111 ex_111 => ?_)
          have vx_111 := b_add (rfl : p1.toInt = _) (by decide : (2 : Int32).toInt = 2) ex_111 (by omega) (by omega)
          exact W.iret (v := x_111) hx hb hr (fun t ht hW => ⟨⟨x_111, (σ_108, ρ_109), rfl, ⟨hB.2.1, hB.2.2, (show 0 ≤ (x_111 : Int32).toInt ∧ (x_111 : Int32).toInt ≤ 400 from ⟨by omega, by omega⟩)⟩, (show TP D cA L T r σ_108 ρ_109 t.heap from by rw [ht]; exact hB.1)⟩, hS.F ht⟩) hS.2.2 dX9_scanSign_81
      · skip
        have uc_93 := i_eq (n := 60) (by decide) c_93
        refine lv_iload_n hx hb dX9_scanSign_42 rfl (lv_at hl 0 rfl) ?_
        refine lv_if_eq (tgt := 59) hx hb dX9_scanSign_43 (by decide) (fun c9 => absurd c9 (by decide)) (fun _ => ?_)
        refine lv_aload_n hx hb dX9_scanSign_46 rfl (lv_at hl 2 rfl) ?_
        refine lv_sipush (v := 128) hx hb dX9_scanSign_47 (by decide) ?_
        refine lv_iload_n hx hb dX9_scanSign_50 rfl (lv_at hl 3 rfl) ?_
        refine lv_iconst (v := 0) hx hb dX9_scanSign_51 (by decide) ?_
        refine t_cv (va_runV (As := [.int 128, .int p1, .int 0]) (rest := []) ⟨hx, hb, hml, hown, hts⟩ (cy_X9_put l D cA L T r hG hLA.1 σ ρ hB.2.1 _ h0 mh0 th0 128 p1 0 (by first | omega | decide) (by first | omega | decide) (by first | omega | decide) (by first | omega | decide) (by first | omega | decide) (by first | omega | decide)) (cV hts mv_X9_put mw_3_35 rfl rfl ⟨Nat.le_of_ble_eq_true rfl, Nat.le_of_ble_eq_true rfl⟩) (pV hB.1 hK hN mh0 th0 (show shp cA 9 _ _ _ = .inr (9, Fs9 _ _ _) from rfl) rfl) rfl rfl hl.1 rfl (lv_room (Nat.le_of_ble_eq_true rfl)) dX9_scanSign_52 ⟨Nat.le_of_ble_eq_true rfl, Nat.le_of_ble_eq_true rfl⟩) hLA hA hB hS (by decide) (fun σ_112 ρ_113 H locs hB fσ_112 pσ_112 hS => ?_)
        refine lv_iload_n hx hb dX9_scanSign_55 rfl (lv_at hl 3 rfl) ?_
        refine lv_iconst (v := 2) hx hb dX9_scanSign_56 (by decide) ?_
        refine lv_iadd hx hb dX9_scanSign_57 ?_
        refine lv_topi (fun x_115 ex_115 => ?_)
        have vx_115 := b_add (rfl : p1.toInt = _) (by decide : (2 : Int32).toInt = 2) ex_115 (by omega) (by omega)
        exact W.iret (v := x_115) hx hb hr (fun t ht hW => ⟨⟨x_115, (σ_112, ρ_113), rfl, ⟨hB.2.1, hB.2.2, (show 0 ≤ (x_115 : Int32).toInt ∧ (x_115 : Int32).toInt ≤ 400 from ⟨by omega, by omega⟩)⟩, (show TP D cA L T r σ_112 ρ_113 t.heap from by rw [ht]; exact hB.1)⟩, hS.F ht⟩) hS.2.2 dX9_scanSign_58
theorem mw_3_101 : (.instanceMethod yX9_scanSign : Cond) ∈ wsA := wsA_t (List.mem_append_right _ (List.mem_append_right _ (List.mem_append_left _ (List.mem_of_getElem? (l := tables_1_3) (i := 101) rfl)))) rfl
theorem mp_1_4 : (.selects RX9 yX9_scanSign yX9_scanSign : Cond) ∈ wsA := wsA_p (q := (yX9_scanSign, 7)) (List.mem_append_left _ (List.mem_of_getElem? (l := lw_privs_1) (i := 4) rfl))
theorem mw_3_102 : (.code yX9_scanSign cX9_scanSign 4 (some .int) : Cond) ∈ wsA := wsA_t (List.mem_append_right _ (List.mem_append_right _ (List.mem_append_left _ (List.mem_of_getElem? (l := tables_1_3) (i := 102) rfl)))) rfl
theorem mw_3_99 : (.methodLink RX9 48 yX9_scanSign : Cond) ∈ wsA := wsA_t (List.mem_append_right _ (List.mem_append_right _ (List.mem_append_left _ (List.mem_of_getElem? (l := tables_1_3) (i := 99) rfl)))) rfl
theorem mw_3_44 : (.instanceMethod yX9_scanWord : Cond) ∈ wsA := wsA_t (List.mem_append_right _ (List.mem_append_right _ (List.mem_append_left _ (List.mem_of_getElem? (l := tables_1_3) (i := 44) rfl)))) rfl
theorem mp_1_2 : (.selects RX9 yX9_scanWord yX9_scanWord : Cond) ∈ wsA := wsA_p (q := (yX9_scanWord, 7)) (List.mem_append_left _ (List.mem_of_getElem? (l := lw_privs_1) (i := 2) rfl))
theorem mw_3_45 : (.code yX9_scanWord cX9_scanWord 4 (some .int) : Cond) ∈ wsA := wsA_t (List.mem_append_right _ (List.mem_append_right _ (List.mem_append_left _ (List.mem_of_getElem? (l := tables_1_3) (i := 45) rfl)))) rfl
theorem mw_3_42 : (.methodLink RX9 45 yX9_scanWord : Cond) ∈ wsA := wsA_t (List.mem_append_right _ (List.mem_append_right _ (List.mem_append_left _ (List.mem_of_getElem? (l := tables_1_3) (i := 42) rfl)))) rfl
theorem mw_3_33 : (.instanceMethod yX9_scanNumber : Cond) ∈ wsA := wsA_t (List.mem_append_right _ (List.mem_append_right _ (List.mem_append_left _ (List.mem_of_getElem? (l := tables_1_3) (i := 33) rfl)))) rfl
theorem mp_1_0 : (.selects RX9 yX9_scanNumber yX9_scanNumber : Cond) ∈ wsA := wsA_p (q := (yX9_scanNumber, 7)) (List.mem_append_left _ (List.mem_of_getElem? (l := lw_privs_1) (i := 0) rfl))
theorem mw_3_34 : (.code yX9_scanNumber cX9_scanNumber 4 (some .int) : Cond) ∈ wsA := wsA_t (List.mem_append_right _ (List.mem_append_right _ (List.mem_append_left _ (List.mem_of_getElem? (l := tables_1_3) (i := 34) rfl)))) rfl
theorem mw_3_31 : (.methodLink RX9 38 yX9_scanNumber : Cond) ∈ wsA := wsA_t (List.mem_append_right _ (List.mem_append_right _ (List.mem_append_left _ (List.mem_of_getElem? (l := tables_1_3) (i := 31) rfl)))) rfl
theorem dX9_scan_0 : decode cX9_scan 0 = .ok (.aload_n 0, 1) := by decide +kernel
theorem dX9_scan_1 : decode cX9_scan 1 = .ok (.iconst 0, 1) := by decide +kernel
theorem dX9_scan_2 : decode cX9_scan 2 = .ok (.putfield 28, 3) := by decide +kernel
theorem dX9_scan_5 : decode cX9_scan 5 = .ok (.aload_n 0, 1) := by decide +kernel
theorem dX9_scan_6 : decode cX9_scan 6 = .ok (.iconst 0, 1) := by decide +kernel
theorem dX9_scan_7 : decode cX9_scan 7 = .ok (.putfield 31, 3) := by decide +kernel
theorem dX9_scan_10 : decode cX9_scan 10 = .ok (.iconst 0, 1) := by decide +kernel
theorem dX9_scan_11 : decode cX9_scan 11 = .ok (.istore_n 1, 1) := by decide +kernel
theorem dX9_scan_12 : decode cX9_scan 12 = .ok (.iconst 0, 1) := by decide +kernel
theorem dX9_scan_13 : decode cX9_scan 13 = .ok (.istore_n 2, 1) := by decide +kernel
theorem dX9_scan_14 : decode cX9_scan 14 = .ok (.iload_n 1, 1) := by decide +kernel
theorem dX9_scan_15 : decode cX9_scan 15 = .ok (.aload_n 0, 1) := by decide +kernel
theorem dX9_scan_16 : decode cX9_scan 16 = .ok (.getfield 24, 3) := by decide +kernel
theorem dX9_scan_19 : decode cX9_scan 19 = .ok (.if_icmp .ge 81, 3) := by decide +kernel
theorem dX9_scan_100 : decode cX9_scan 100 = .ok (.aload_n 0, 1) := by decide +kernel
theorem dX9_scan_101 : decode cX9_scan 101 = .ok (.sipush 133, 3) := by decide +kernel
theorem dX9_scan_104 : decode cX9_scan 104 = .ok (.aload_n 0, 1) := by decide +kernel
theorem dX9_scan_105 : decode cX9_scan 105 = .ok (.getfield 24, 3) := by decide +kernel
theorem dX9_scan_108 : decode cX9_scan 108 = .ok (.iconst 0, 1) := by decide +kernel
theorem dX9_scan_109 : decode cX9_scan 109 = .ok (.invokevirtual 51, 3) := by decide +kernel
theorem dX9_scan_112 : decode cX9_scan 112 = .ok (.return_, 1) := by decide +kernel
theorem dX9_scan_22 : decode cX9_scan 22 = .ok (.iload_n 2, 1) := by decide +kernel
theorem dX9_scan_23 : decode cX9_scan 23 = .ok (.sipush 400, 3) := by decide +kernel
theorem dX9_scan_26 : decode cX9_scan 26 = .ok (.if_icmp .ge 74, 3) := by decide +kernel
theorem dX9_scan_29 : decode cX9_scan 29 = .ok (.aload_n 0, 1) := by decide +kernel
theorem dX9_scan_30 : decode cX9_scan 30 = .ok (.getfield 11, 3) := by decide +kernel
theorem dX9_scan_33 : decode cX9_scan 33 = .ok (.iload_n 1, 1) := by decide +kernel
theorem dX9_scan_34 : decode cX9_scan 34 = .ok (.iaload, 1) := by decide +kernel
theorem dX9_scan_35 : decode cX9_scan 35 = .ok (.bipush 32, 2) := by decide +kernel
theorem dX9_scan_37 : decode cX9_scan 37 = .ok (.if_icmp .ne 9, 3) := by decide +kernel
theorem dX9_scan_46 : decode cX9_scan 46 = .ok (.aload_n 0, 1) := by decide +kernel
theorem dX9_scan_47 : decode cX9_scan 47 = .ok (.getfield 11, 3) := by decide +kernel
theorem dX9_scan_50 : decode cX9_scan 50 = .ok (.iload_n 1, 1) := by decide +kernel
theorem dX9_scan_51 : decode cX9_scan 51 = .ok (.iaload, 1) := by decide +kernel
theorem dX9_scan_52 : decode cX9_scan 52 = .ok (.invokestatic 34, 3) := by decide +kernel
theorem dX9_scan_55 : decode cX9_scan 55 = .ok (.ifCond .eq 12, 3) := by decide +kernel
theorem dX9_scan_67 : decode cX9_scan 67 = .ok (.aload_n 0, 1) := by decide +kernel
theorem dX9_scan_68 : decode cX9_scan 68 = .ok (.getfield 11, 3) := by decide +kernel
theorem dX9_scan_71 : decode cX9_scan 71 = .ok (.iload_n 1, 1) := by decide +kernel
theorem dX9_scan_72 : decode cX9_scan 72 = .ok (.iaload, 1) := by decide +kernel
theorem dX9_scan_73 : decode cX9_scan 73 = .ok (.invokestatic 42, 3) := by decide +kernel
theorem dX9_scan_76 : decode cX9_scan 76 = .ok (.ifCond .eq 12, 3) := by decide +kernel
theorem dX9_scan_88 : decode cX9_scan 88 = .ok (.aload_n 0, 1) := by decide +kernel
theorem dX9_scan_89 : decode cX9_scan 89 = .ok (.iload_n 1, 1) := by decide +kernel
theorem dX9_scan_90 : decode cX9_scan 90 = .ok (.invokevirtual 48, 3) := by decide +kernel
theorem dX9_scan_93 : decode cX9_scan 93 = .ok (.istore_n 1, 1) := by decide +kernel
theorem dX9_scan_94 : decode cX9_scan 94 = .ok (.iinc 2 1, 3) := by decide +kernel
theorem dX9_scan_97 : decode cX9_scan 97 = .ok (.goto (-83), 3) := by decide +kernel
theorem dX9_scan_79 : decode cX9_scan 79 = .ok (.aload_n 0, 1) := by decide +kernel
theorem dX9_scan_80 : decode cX9_scan 80 = .ok (.iload_n 1, 1) := by decide +kernel
theorem dX9_scan_81 : decode cX9_scan 81 = .ok (.invokevirtual 45, 3) := by decide +kernel
theorem dX9_scan_84 : decode cX9_scan 84 = .ok (.istore_n 1, 1) := by decide +kernel
theorem dX9_scan_85 : decode cX9_scan 85 = .ok (.goto 9, 3) := by decide +kernel
theorem dX9_scan_58 : decode cX9_scan 58 = .ok (.aload_n 0, 1) := by decide +kernel
theorem dX9_scan_59 : decode cX9_scan 59 = .ok (.iload_n 1, 1) := by decide +kernel
theorem dX9_scan_60 : decode cX9_scan 60 = .ok (.invokevirtual 38, 3) := by decide +kernel
theorem dX9_scan_63 : decode cX9_scan 63 = .ok (.istore_n 1, 1) := by decide +kernel
theorem dX9_scan_64 : decode cX9_scan 64 = .ok (.goto 30, 3) := by decide +kernel
theorem dX9_scan_40 : decode cX9_scan 40 = .ok (.iinc 1 1, 3) := by decide +kernel
theorem dX9_scan_43 : decode cX9_scan 43 = .ok (.goto 51, 3) := by decide +kernel
theorem mv_X9_scanSign : MV RX9 yX9_scanSign cX9_scanSign 4 (some .int) 1 := ⟨mw_3_101, mp_1_4, mw_1_2, mw_3_102, ⟨rfl, by decide, by decide, by decide +kernel⟩⟩
theorem mv_X9_scanWord : MV RX9 yX9_scanWord cX9_scanWord 4 (some .int) 1 := ⟨mw_3_44, mp_1_2, mw_1_2, mw_3_45, ⟨rfl, by decide, by decide, by decide +kernel⟩⟩
theorem mv_X9_scanNumber : MV RX9 yX9_scanNumber cX9_scanNumber 4 (some .int) 1 := ⟨mw_3_33, mp_1_0, mw_1_2, mw_3_34, ⟨rfl, by decide, by decide, by decide +kernel⟩⟩
set_option maxHeartbeats 4000000 in
set_option maxRecDepth 100000 in
theorem cy_X9_scan (l : Launch) (D : va_G) (cA : Nat → ClassId) (L : List Nat) (T : Nat → Nat) (r : Rg) (hG : GR L T r) (hL : L.Nodup) (σ : Sg) (ρ : Lg) (hW : WT L ry T σ) (sz : Nat) (adK adV : Nat → Nat) (h0 : Nat) (mh0 : h0 ∈ L) (th0 : T h0 = 9) : Met l yX9_scan (.code yX9_scan cX9_scan 3 none :: wsA) ({ frames := 6, cells := 0, slots := 0, locals := 133 }) (PZ adK adV D cA L T r σ ρ sz [.ref h0]) (QV D cA L T r ry [(9, 5), (9, 6), (52, 1000), (53, 1000), (54, 1000)] σ sz (fun σ1 => True)) 0 0 (dm L sz) := by
  refine Met.ofW (cc := cX9_scan) (maxL := 3) (ret := none) (by decide) rfl ?_
  intro p e s m args below meth c s₁ B hml hv
  obtain ⟨rfl, hsz, hP, hK, hN, hV⟩ := hv
  have hx := B.exec
  have hb := B.bytes
  have hr := B.returns
  have hts : ∀ w ∈ wsA, w.before _ s = true := fun w h => atoms_spec (ws := .code yX9_scan cX9_scan 3 none :: wsA) B.pre w (List.mem_cons_of_mem _ h)
  have hown : s.vm.findClass RX9 = some m.cls := findClass_of_methodNamed B.named
  subst hsz
  have hLA : LA (dm L s.heap.size) L := ⟨hL, fun a h => Or.inl h⟩
  have hA : ∀ q : Nat, s.heap.size ≤ q → dm L s.heap.size q := fun q h => Or.inr h
  have hS : va_S (dm L s.heap.size) s.heap s.heap [] := va_S.rf
  have hB : TS D cA L T r ry [(9, 5), (9, 6), (52, 1000), (53, 1000), (54, 1000)] σ σ ρ s.heap := ⟨hP, hW, FR.rf⟩
  have hl := lv_entry ([.ref h0]) (n := 3) (Nat.le_of_ble_eq_true rfl)
  rw [lg_entry_eq]
  generalize (lg_sl ([.ref h0]) ++ List.replicate (3 - (lg_sl ([.ref h0])).length) Slot.unset).toArray = ls at hl ⊢
  have hl : lv_has ls 3 [(0, .ref h0)] := hl
  refine lv_aload_n hx hb dX9_scan_0 rfl (lv_at hl 0 rfl) ?_
  refine lv_iconst (v := 0) hx hb dX9_scan_1 (by decide) ?_
  refine t_pi hx hb hts hown hK hLA hB hS mh0 th0 fi_9_5 rfl rfl rfl (by decide) (by decide) (Or.inl (by decide)) mw_1_42 dX9_scan_2 (fun H locs σ_1 eσ_1 hB hS => ?_)
  have k_2 : σ_1 h0 5 = 0 := by rw [eσ_1]; exact up2_same _ _ _ _
  refine lv_aload_n hx hb dX9_scan_5 rfl (lv_at hl 0 rfl) ?_
  refine lv_iconst (v := 0) hx hb dX9_scan_6 (by decide) ?_
  refine t_pi hx hb hts hown hK hLA hB hS mh0 th0 fi_9_6 rfl rfl rfl (i_lo _) (i_hi _) (Or.inl (by decide)) mw_1_45 dX9_scan_7 (fun H locs σ_3 eσ_3 hB hS => ?_)
  have k_4 : σ_3 h0 6 = 0 := by rw [eσ_3]; exact up2_same _ _ _ _
  refine lv_iconst (v := 0) hx hb dX9_scan_10 (by decide) ?_
  refine lv_istore_n (lv' := [(1, .int 0), (0, .ref h0)]) hx hb dX9_scan_11 rfl hl (by decide) rfl (fun ls hl => ?_)
  refine lv_iconst (v := 0) hx hb dX9_scan_12 (by decide) ?_
  refine lv_istore_n (lv' := [(2, .int 0), (1, .int 0), (0, .ref h0)]) hx hb dX9_scan_13 rfl hl (by decide) rfl (fun ls hl => ?_)
  refine w_loop (α := Int32 × Int32 × Sg × Lg) (fun (i_5, i_6, σ_7, ρ_8) H locs ls => 0 ≤ i_5.toInt ∧ i_5.toInt ≤ 400 ∧ 0 ≤ i_6.toInt ∧ i_6.toInt ≤ 400 ∧ σ_7 h0 6 = 0 ∧ TS D cA L T r ry [(9, 5), (9, 6), (52, 1000), (53, 1000), (54, 1000)] σ σ_7 ρ_8 H ∧ va_S (dm L s.heap.size) s.heap H locs ∧ lv_has ls 3 [(2, .int i_6), (1, .int i_5), (0, .ref h0)]) (fun (i_5, i_6, σ_7, ρ_8) => (400 - i_6.toInt).toNat) ?_ ⟨0, 0, σ_3, ρ⟩ ⟨(by decide), (by decide), (by decide), (by decide), k_4, hB, hS, lv_sub hl [0, 1, 2] rfl⟩
  rintro ⟨i_5, i_6, σ_7, ρ_8⟩ H locs ls ⟨li_5, ui_5, li_6, ui_6, k_10, hB, hS, hl⟩ ih_9
  refine lv_iload_n hx hb dX9_scan_14 rfl (lv_at hl 1 rfl) ?_
  refine lv_aload_n hx hb dX9_scan_15 rfl (lv_at hl 2 rfl) ?_
  refine t_gi hx hb hts hown hK hB mh0 th0 fi_9_4 rfl mw_1_41 dX9_scan_16 (fun x_11 ex_11 lx_11 ux_11 => ?_)
  have cx_11 := congrArg Int32.toInt ex_11
  refine lv_icmp_ge (tgt := 100) hx hb dX9_scan_19 (by decide) (fun c_12 => ?_) (fun c_12 => ?_)
  · skip
    have uc_12 := j_le c_12
    refine lv_aload_n hx hb dX9_scan_100 rfl (lv_at hl 2 rfl) ?_
    refine lv_sipush (v := 133) hx hb dX9_scan_101 (by decide) ?_
    refine lv_aload_n hx hb dX9_scan_104 rfl (lv_at hl 2 rfl) ?_
    refine t_gv hx hb hts hown hK hB mh0 th0 fi_9_4 ex_11.symm mw_1_41 dX9_scan_105 ?_
    refine lv_iconst (v := 0) hx hb dX9_scan_108 (by decide) ?_
    refine t_cv (va_runV (As := [.int 133, .int x_11, .int 0]) (rest := []) ⟨hx, hb, hml, hown, hts⟩ (cy_X9_put l D cA L T r hG hLA.1 σ_7 ρ_8 hB.2.1 _ h0 mh0 th0 133 x_11 0 (by first | omega | decide) (by first | omega | decide) (by first | omega | decide) (by first | omega | decide) (by first | omega | decide) (by first | omega | decide)) (cV hts mv_X9_put mw_3_35 rfl rfl ⟨Nat.le_of_ble_eq_true rfl, Nat.le_of_ble_eq_true rfl⟩) (pV hB.1 hK hN mh0 th0 (show shp cA 9 _ _ _ = .inr (9, Fs9 _ _ _) from rfl) rfl) rfl rfl hl.1 rfl (lv_room (Nat.le_of_ble_eq_true rfl)) dX9_scan_109 ⟨Nat.le_of_ble_eq_true rfl, Nat.le_of_ble_eq_true rfl⟩) hLA hA hB hS (by decide) (fun σ_13 ρ_14 H locs hB fσ_13 pσ_13 hS => ?_)
    exact W.vret hx hb hr (fun t ht hW => ⟨⟨(σ_13, ρ_14), rfl, ⟨hB.2.1, hB.2.2, trivial⟩, (show TP D cA L T r σ_13 ρ_14 t.heap from by rw [ht]; exact hB.1)⟩, hS.F ht⟩) hS.2.2 dX9_scan_112
  · skip
    have uc_12 := j_nle c_12
    refine lv_iload_n hx hb dX9_scan_22 rfl (lv_at hl 0 rfl) ?_
    refine lv_sipush (v := 400) hx hb dX9_scan_23 (by decide) ?_
    refine lv_icmp_ge (tgt := 100) hx hb dX9_scan_26 (by decide) (fun c_16 => ?_) (fun c_16 => ?_)
    · skip
      have uc_16 := i_ge (n := 400) (by decide) c_16
      refine lv_aload_n hx hb dX9_scan_100 rfl (lv_at hl 2 rfl) ?_
      refine lv_sipush (v := 133) hx hb dX9_scan_101 (by decide) ?_
      refine lv_aload_n hx hb dX9_scan_104 rfl (lv_at hl 2 rfl) ?_
      refine t_gv hx hb hts hown hK hB mh0 th0 fi_9_4 ex_11.symm mw_1_41 dX9_scan_105 ?_
      refine lv_iconst (v := 0) hx hb dX9_scan_108 (by decide) ?_
      refine t_cv (va_runV (As := [.int 133, .int x_11, .int 0]) (rest := []) ⟨hx, hb, hml, hown, hts⟩ (cy_X9_put l D cA L T r hG hLA.1 σ_7 ρ_8 hB.2.1 _ h0 mh0 th0 133 x_11 0 (by first | omega | decide) (by first | omega | decide) (by first | omega | decide) (by first | omega | decide) (by first | omega | decide) (by first | omega | decide)) (cV hts mv_X9_put mw_3_35 rfl rfl ⟨Nat.le_of_ble_eq_true rfl, Nat.le_of_ble_eq_true rfl⟩) (pV hB.1 hK hN mh0 th0 (show shp cA 9 _ _ _ = .inr (9, Fs9 _ _ _) from rfl) rfl) rfl rfl hl.1 rfl (lv_room (Nat.le_of_ble_eq_true rfl)) dX9_scan_109 ⟨Nat.le_of_ble_eq_true rfl, Nat.le_of_ble_eq_true rfl⟩) hLA hA hB hS (by decide) (fun σ_17 ρ_18 H locs hB fσ_17 pσ_17 hS => ?_)
      exact W.vret hx hb hr (fun t ht hW => ⟨⟨(σ_17, ρ_18), rfl, ⟨hB.2.1, hB.2.2, trivial⟩, (show TP D cA L T r σ_17 ρ_18 t.heap from by rw [ht]; exact hB.1)⟩, hS.F ht⟩) hS.2.2 dX9_scan_112
    · skip
      have uc_16 := i_nge (n := 400) (by decide) c_16
      refine lv_aload_n hx hb dX9_scan_29 rfl (lv_at hl 2 rfl) ?_
      refine t_gr hx hb hts hown hK hG hB mh0 th0 fq_9_0 rfl mw_1_36 dX9_scan_30 (fun b_20 hb_20 mb_20 tb_20 => ?_)
      refine lv_iload_n hx hb dX9_scan_33 rfl (lv_at hl 1 rfl) ?_
      refine t_ai hx hb hK hB mb_20 tb_20 ai_51 (fun _ => rfl) (i_in (by omega) (by omega)) dX9_scan_34 (fun x_21 ex_21 lx_21 ux_21 => ?_)
      have cx_21 := congrArg Int32.toInt ex_21
      refine lv_bipush (v := 32) hx hb dX9_scan_35 (by decide) ?_
      refine lv_icmp_ne (tgt := 46) hx hb dX9_scan_37 (by decide) (fun c_22 => ?_) (fun c_22 => ?_)
      · skip
        have uc_22 := i_ne (n := 32) (by decide) c_22
        refine lv_aload_n hx hb dX9_scan_46 rfl (lv_at hl 2 rfl) ?_
        refine t_gk hx hb hts hown hK hB mh0 th0 fq_9_0 hb_20 mw_1_36 dX9_scan_47 ?_
        refine lv_iload_n hx hb dX9_scan_50 rfl (lv_at hl 1 rfl) ?_
        refine t_ai hx hb hK hB mb_20 tb_20 ai_51 (fun _ => rfl) (i_in (by omega) (by omega)) dX9_scan_51 (fun x_23 ex_23 lx_23 ux_23 => ?_)
        have qx_23 : x_23 = x_21 := ex_23.trans ex_21.symm
        have qx_23 := qx_23.symm
        subst qx_23
        refine t_ci (va_runS (As := [.int x_21]) (rest := []) ⟨hx, hb, hml, hown, hts⟩ (cy_X9_isDigit l D cA L T r hG hLA.1 σ_7 ρ_8 hB.2.1 _ x_21) (cS hts ms_X9_isDigit mw_3_28 rfl rfl ⟨Nat.le_of_ble_eq_true rfl, Nat.le_of_ble_eq_true rfl⟩) (pS hB.1 hK hN) rfl rfl hl.1 rfl (lv_room (Nat.le_of_ble_eq_true rfl)) dX9_scan_52 ⟨Nat.le_of_ble_eq_true rfl, Nat.le_of_ble_eq_true rfl⟩) hLA hA hB hS (by decide) (fun x_26 σ_24 ρ_25 H locs hB fσ_24 pσ_24 hS => ?_)
        have qσ_24 := FR.nil fσ_24
        subst qσ_24
        obtain ⟨ox_26, ix_26⟩ := pσ_24
        refine lv_if_eq (tgt := 67) hx hb dX9_scan_55 (by decide) (fun c_27 => ?_) (fun c_27 => ?_)
        · skip
          have uc_27 := i_eq (n := 0) (by decide) c_27
          refine lv_aload_n hx hb dX9_scan_67 rfl (lv_at hl 2 rfl) ?_
          refine t_gk hx hb hts hown hK hB mh0 th0 fq_9_0 hb_20 mw_1_36 dX9_scan_68 ?_
          refine lv_iload_n hx hb dX9_scan_71 rfl (lv_at hl 1 rfl) ?_
          refine t_ai hx hb hK hB mb_20 tb_20 ai_51 (fun _ => rfl) (i_in (by omega) (by omega)) dX9_scan_72 (fun x_28 ex_28 lx_28 ux_28 => ?_)
          have qx_28 : x_28 = x_21 := ex_28.trans ex_21.symm
          have qx_28 := qx_28.symm
          subst qx_28
          refine t_ci (va_runS (As := [.int x_21]) (rest := []) ⟨hx, hb, hml, hown, hts⟩ (cy_X9_isLetter l D cA L T r hG hLA.1 σ_7 ρ_25 hB.2.1 _ x_21) (cS hts ms_X9_isLetter mw_3_39 rfl rfl ⟨Nat.le_of_ble_eq_true rfl, Nat.le_of_ble_eq_true rfl⟩) (pS hB.1 hK hN) rfl rfl hl.1 rfl (lv_room (Nat.le_of_ble_eq_true rfl)) dX9_scan_73 ⟨Nat.le_of_ble_eq_true rfl, Nat.le_of_ble_eq_true rfl⟩) hLA hA hB hS (by decide) (fun x_31 σ_29 ρ_30 H locs hB fσ_29 pσ_29 hS => ?_)
          have qσ_29 := FR.nil fσ_29
          subst qσ_29
          obtain ⟨ox_31, ix_31⟩ := pσ_29
          refine lv_if_eq (tgt := 88) hx hb dX9_scan_76 (by decide) (fun c_32 => ?_) (fun c_32 => ?_)
          · skip
            have uc_32 := i_eq (n := 0) (by decide) c_32
            refine lv_aload_n hx hb dX9_scan_88 rfl (lv_at hl 2 rfl) ?_
            refine lv_iload_n hx hb dX9_scan_89 rfl (lv_at hl 1 rfl) ?_
            refine t_ci (va_runV (As := [.int i_5]) (rest := []) ⟨hx, hb, hml, hown, hts⟩ (cy_X9_scanSign l D cA L T r hG hLA.1 σ_7 ρ_30 hB.2.1 _ adK adV h0 mh0 th0 i_5 (by first | omega | decide) (by first | omega | decide)) (cV hts mv_X9_scanSign mw_3_99 rfl rfl ⟨Nat.le_of_ble_eq_true rfl, Nat.le_of_ble_eq_true rfl⟩) (pVz hB.1 hK hN mh0 th0 (show shp cA 9 _ _ _ = .inr (9, Fs9 _ _ _) from rfl) rfl (hV.to hS)) rfl rfl hl.1 rfl (lv_room (Nat.le_of_ble_eq_true rfl)) dX9_scan_90 ⟨Nat.le_of_ble_eq_true rfl, Nat.le_of_ble_eq_true rfl⟩) hLA hA hB hS (by decide) (fun x_35 σ_33 ρ_34 H locs hB fσ_33 pσ_33 hS => ?_)
            obtain ⟨lx_35, ux_35⟩ := pσ_33
            refine lv_istore_n (lv' := [(1, .int x_35), (2, .int i_6), (0, .ref h0)]) hx hb dX9_scan_93 rfl hl (by decide) rfl (fun ls hl => ?_)
            obtain ⟨x_36, ex_36⟩ : ∃ y : Int32, y = i_6 + 1 := ⟨_, rfl⟩
            have vx_36 := b_add (rfl : i_6.toInt = _) (by decide : (1 : Int32).toInt = 1) ex_36 (by omega) (by omega)
            refine lv_iinc (v := x_36) (lv' := [(2, .int x_36), (1, .int x_35), (0, .ref h0)]) hx hb dX9_scan_94 hl (k := 1) rfl (by rw [ex_36]; rfl) (by decide) rfl (fun ls hl => ?_)
            refine lv_goto (tgt := 14) hx hb dX9_scan_97 (by decide) ?_
            have k_37 : σ_33 h0 6 = 0 := (FR.at fσ_33 th0 (by decide)).trans k_10
            exact ih_9 ⟨x_35, x_36, σ_33, ρ_34⟩ _ _ _ ⟨(by omega), (by omega), (by omega), (by omega), k_37, hB, hS, lv_sub hl [0, 1, 2] rfl⟩ (by show (400 - x_36.toInt).toNat < (400 - i_6.toInt).toNat; omega)
          · skip
            have uc_32 := i_ne (n := 0) (by decide) c_32
            refine lv_aload_n hx hb dX9_scan_79 rfl (lv_at hl 2 rfl) ?_
            refine lv_iload_n hx hb dX9_scan_80 rfl (lv_at hl 1 rfl) ?_
            refine t_ci (va_runV (As := [.int i_5]) (rest := []) ⟨hx, hb, hml, hown, hts⟩ (cy_X9_scanWord l D cA L T r hG hLA.1 σ_7 ρ_30 hB.2.1 _ adK adV h0 mh0 th0 i_5 (by first | omega | decide) (by first | omega | decide)) (cV hts mv_X9_scanWord mw_3_42 rfl rfl ⟨Nat.le_of_ble_eq_true rfl, Nat.le_of_ble_eq_true rfl⟩) (pVz hB.1 hK hN mh0 th0 (show shp cA 9 _ _ _ = .inr (9, Fs9 _ _ _) from rfl) rfl (hV.to hS)) rfl rfl hl.1 rfl (lv_room (Nat.le_of_ble_eq_true rfl)) dX9_scan_81 ⟨Nat.le_of_ble_eq_true rfl, Nat.le_of_ble_eq_true rfl⟩) hLA hA hB hS (by decide) (fun x_40 σ_38 ρ_39 H locs hB fσ_38 pσ_38 hS => ?_)
            obtain ⟨lx_40, ux_40⟩ := pσ_38
            refine lv_istore_n (lv' := [(1, .int x_40), (2, .int i_6), (0, .ref h0)]) hx hb dX9_scan_84 rfl hl (by decide) rfl (fun ls hl => ?_)
            refine lv_goto (tgt := 94) hx hb dX9_scan_85 (by decide) ?_
            obtain ⟨x_41, ex_41⟩ : ∃ y : Int32, y = i_6 + 1 := ⟨_, rfl⟩
            have vx_41 := b_add (rfl : i_6.toInt = _) (by decide : (1 : Int32).toInt = 1) ex_41 (by omega) (by omega)
            refine lv_iinc (v := x_41) (lv' := [(2, .int x_41), (1, .int x_40), (0, .ref h0)]) hx hb dX9_scan_94 hl (k := 1) rfl (by rw [ex_41]; rfl) (by decide) rfl (fun ls hl => ?_)
            refine lv_goto (tgt := 14) hx hb dX9_scan_97 (by decide) ?_
            have k_42 : σ_38 h0 6 = 0 := (FR.at fσ_38 th0 (by decide)).trans k_10
            exact ih_9 ⟨x_40, x_41, σ_38, ρ_39⟩ _ _ _ ⟨(by omega), (by omega), (by omega), (by omega), k_42, hB, hS, lv_sub hl [0, 1, 2] rfl⟩ (by show (400 - x_41.toInt).toNat < (400 - i_6.toInt).toNat; omega)
        · skip
          have uc_27 := i_ne (n := 0) (by decide) c_27
          refine lv_aload_n hx hb dX9_scan_58 rfl (lv_at hl 2 rfl) ?_
          refine lv_iload_n hx hb dX9_scan_59 rfl (lv_at hl 1 rfl) ?_
          refine t_ci (va_runV (As := [.int i_5]) (rest := []) ⟨hx, hb, hml, hown, hts⟩ (cy_X9_scanNumber l D cA L T r hG hLA.1 σ_7 ρ_25 hB.2.1 _ h0 mh0 th0 i_5 (by first | omega | decide) (by first | omega | decide)) (cV hts mv_X9_scanNumber mw_3_31 rfl rfl ⟨Nat.le_of_ble_eq_true rfl, Nat.le_of_ble_eq_true rfl⟩) (pV hB.1 hK hN mh0 th0 (show shp cA 9 _ _ _ = .inr (9, Fs9 _ _ _) from rfl) rfl) rfl rfl hl.1 rfl (lv_room (Nat.le_of_ble_eq_true rfl)) dX9_scan_60 ⟨Nat.le_of_ble_eq_true rfl, Nat.le_of_ble_eq_true rfl⟩) hLA hA hB hS (by decide) (fun x_45 σ_43 ρ_44 H locs hB fσ_43 pσ_43 hS => ?_)
          obtain ⟨lx_45, ux_45⟩ := pσ_43
          refine lv_istore_n (lv' := [(1, .int x_45), (2, .int i_6), (0, .ref h0)]) hx hb dX9_scan_63 rfl hl (by decide) rfl (fun ls hl => ?_)
          refine lv_goto (tgt := 94) hx hb dX9_scan_64 (by decide) ?_
          obtain ⟨x_46, ex_46⟩ : ∃ y : Int32, y = i_6 + 1 := ⟨_, rfl⟩
          have vx_46 := b_add (rfl : i_6.toInt = _) (by decide : (1 : Int32).toInt = 1) ex_46 (by omega) (by omega)
          refine lv_iinc (v := x_46) (lv' := [(2, .int x_46), (1, .int x_45), (0, .ref h0)]) hx hb dX9_scan_94 hl (k := 1) rfl (by rw [ex_46]; rfl) (by decide) rfl (fun ls hl => ?_)
          refine lv_goto (tgt := 14) hx hb dX9_scan_97 (by decide) ?_
          have k_47 : σ_43 h0 6 = 0 := (FR.at fσ_43 th0 (by decide)).trans k_10
          exact ih_9 ⟨x_45, x_46, σ_43, ρ_44⟩ _ _ _ ⟨(by omega), (by omega), (by omega), (by omega), k_47, hB, hS, lv_sub hl [0, 1, 2] rfl⟩ (by show (400 - x_46.toInt).toNat < (400 - i_6.toInt).toNat; omega)
      · skip
        have uc_22 := i_eq (n := 32) (by decide) c_22
        obtain ⟨x_48, ex_48⟩ : ∃ y : Int32, y = i_5 + 1 := ⟨_, rfl⟩
        have vx_48 := b_add (rfl : i_5.toInt = _) (by decide : (1 : Int32).toInt = 1) ex_48 (by omega) (by omega)
        refine lv_iinc (v := x_48) (lv' := [(1, .int x_48), (2, .int i_6), (0, .ref h0)]) hx hb dX9_scan_40 hl (k := 1) rfl (by rw [ex_48]; rfl) (by decide) rfl (fun ls hl => ?_)
        refine lv_goto (tgt := 94) hx hb dX9_scan_43 (by decide) ?_
        obtain ⟨x_49, ex_49⟩ : ∃ y : Int32, y = i_6 + 1 := ⟨_, rfl⟩
        have vx_49 := b_add (rfl : i_6.toInt = _) (by decide : (1 : Int32).toInt = 1) ex_49 (by omega) (by omega)
        refine lv_iinc (v := x_49) (lv' := [(2, .int x_49), (1, .int x_48), (0, .ref h0)]) hx hb dX9_scan_94 hl (k := 1) rfl (by rw [ex_49]; rfl) (by decide) rfl (fun ls hl => ?_)
        refine lv_goto (tgt := 14) hx hb dX9_scan_97 (by decide) ?_
        exact ih_9 ⟨x_48, x_49, σ_7, ρ_8⟩ _ _ _ ⟨(by omega), (by omega), (by omega), (by omega), k_10, hB, hS, lv_sub hl [0, 1, 2] rfl⟩ (by show (400 - x_49.toInt).toNat < (400 - i_6.toInt).toNat; omega)
theorem mw_3_25 : (.instanceMethod yX9_scan : Cond) ∈ wsA := wsA_t (List.mem_append_right _ (List.mem_append_right _ (List.mem_append_left _ (List.mem_of_getElem? (l := tables_1_3) (i := 25) rfl)))) rfl
theorem mw_3_26 : (.selects RX9 yX9_scan yX9_scan : Cond) ∈ wsA := wsA_t (List.mem_append_right _ (List.mem_append_right _ (List.mem_append_left _ (List.mem_of_getElem? (l := tables_1_3) (i := 26) rfl)))) rfl
theorem mw_3_27 : (.code yX9_scan cX9_scan 3 none : Cond) ∈ wsA := wsA_t (List.mem_append_right _ (List.mem_append_right _ (List.mem_append_left _ (List.mem_of_getElem? (l := tables_1_3) (i := 27) rfl)))) rfl
theorem mw_3_24 : (.methodLink RX4 18 yX9_scan : Cond) ∈ wsA := wsA_t (List.mem_append_right _ (List.mem_append_right _ (List.mem_append_left _ (List.mem_of_getElem? (l := tables_1_3) (i := 24) rfl)))) rfl
theorem mw_3_164 : (.instanceMethod yX3_clear : Cond) ∈ wsA := wsA_t (List.mem_append_right _ (List.mem_append_right _ (List.mem_append_left _ (List.mem_of_getElem? (l := tables_1_3) (i := 164) rfl)))) rfl
theorem mw_3_165 : (.selects RX3 yX3_clear yX3_clear : Cond) ∈ wsA := wsA_t (List.mem_append_right _ (List.mem_append_right _ (List.mem_append_left _ (List.mem_of_getElem? (l := tables_1_3) (i := 165) rfl)))) rfl
theorem mw_3_166 : (.code yX3_clear cX3_clear 1 none : Cond) ∈ wsA := wsA_t (List.mem_append_right _ (List.mem_append_right _ (List.mem_append_left _ (List.mem_of_getElem? (l := tables_1_3) (i := 166) rfl)))) rfl
theorem mw_3_163 : (.methodLink RX4 23 yX3_clear : Cond) ∈ wsA := wsA_t (List.mem_append_right _ (List.mem_append_right _ (List.mem_append_left _ (List.mem_of_getElem? (l := tables_1_3) (i := 163) rfl)))) rfl
theorem mw_1_163 : (.fieldLink RX4 26 "HillBends$Hill" "told" "Z" : Cond) ∈ wsA := wsA_t (List.mem_append_left _ (List.mem_of_getElem? (l := tables_1_1) (i := 163) rfl)) rfl
theorem mw_3_173 : (.instanceMethod yX4_clause : Cond) ∈ wsA := wsA_t (List.mem_append_right _ (List.mem_append_right _ (List.mem_append_left _ (List.mem_of_getElem? (l := tables_1_3) (i := 173) rfl)))) rfl
theorem mp_1_5 : (.selects RX4 yX4_clause yX4_clause : Cond) ∈ wsA := wsA_p (q := (yX4_clause, 2)) (List.mem_append_left _ (List.mem_of_getElem? (l := lw_privs_1) (i := 5) rfl))
theorem mw_3_174 : (.code yX4_clause cX4_clause 5 (some .boolean) : Cond) ∈ wsA := wsA_t (List.mem_append_right _ (List.mem_append_right _ (List.mem_append_left _ (List.mem_of_getElem? (l := tables_1_3) (i := 174) rfl)))) rfl
theorem mw_3_171 : (.methodLink RX4 33 yX4_clause : Cond) ∈ wsA := wsA_t (List.mem_append_right _ (List.mem_append_right _ (List.mem_append_left _ (List.mem_of_getElem? (l := tables_1_3) (i := 171) rfl)))) rfl
theorem dX4_read_0 : decode cX4_read 0 = .ok (.aload_n 1, 1) := by decide +kernel
theorem dX4_read_1 : decode cX4_read 1 = .ok (.invokevirtual 18, 3) := by decide +kernel
theorem dX4_read_4 : decode cX4_read 4 = .ok (.aload_n 0, 1) := by decide +kernel
theorem dX4_read_5 : decode cX4_read 5 = .ok (.getfield 12, 3) := by decide +kernel
theorem dX4_read_8 : decode cX4_read 8 = .ok (.invokevirtual 23, 3) := by decide +kernel
theorem dX4_read_11 : decode cX4_read 11 = .ok (.aload_n 0, 1) := by decide +kernel
theorem dX4_read_12 : decode cX4_read 12 = .ok (.getfield 12, 3) := by decide +kernel
theorem dX4_read_15 : decode cX4_read 15 = .ok (.iconst 1, 1) := by decide +kernel
theorem dX4_read_16 : decode cX4_read 16 = .ok (.putfield 26, 3) := by decide +kernel
theorem dX4_read_19 : decode cX4_read 19 = .ok (.aload_n 0, 1) := by decide +kernel
theorem dX4_read_20 : decode cX4_read 20 = .ok (.iconst 0, 1) := by decide +kernel
theorem dX4_read_21 : decode cX4_read 21 = .ok (.putfield 29, 3) := by decide +kernel
theorem dX4_read_24 : decode cX4_read 24 = .ok (.iconst 1, 1) := by decide +kernel
theorem dX4_read_25 : decode cX4_read 25 = .ok (.istore_n 2, 1) := by decide +kernel
theorem dX4_read_26 : decode cX4_read 26 = .ok (.iconst 0, 1) := by decide +kernel
theorem dX4_read_27 : decode cX4_read 27 = .ok (.istore_n 3, 1) := by decide +kernel
theorem dX4_read_28 : decode cX4_read 28 = .ok (.iload_n 3, 1) := by decide +kernel
theorem dX4_read_29 : decode cX4_read 29 = .ok (.bipush 40, 2) := by decide +kernel
theorem dX4_read_31 : decode cX4_read 31 = .ok (.if_icmp .gt 82, 3) := by decide +kernel
theorem dX4_read_34 : decode cX4_read 34 = .ok (.iload_n 2, 1) := by decide +kernel
theorem dX4_read_35 : decode cX4_read 35 = .ok (.ifCond .eq 78, 3) := by decide +kernel
theorem dX4_read_38 : decode cX4_read 38 = .ok (.aload_n 0, 1) := by decide +kernel
theorem dX4_read_39 : decode cX4_read 39 = .ok (.aload_n 1, 1) := by decide +kernel
theorem dX4_read_40 : decode cX4_read 40 = .ok (.iload_n 3, 1) := by decide +kernel
theorem dX4_read_41 : decode cX4_read 41 = .ok (.invokevirtual 33, 3) := by decide +kernel
theorem dX4_read_44 : decode cX4_read 44 = .ok (.ifCond .eq 69, 3) := by decide +kernel
theorem dX4_read_47 : decode cX4_read 47 = .ok (.aload_n 1, 1) := by decide +kernel
theorem dX4_read_48 : decode cX4_read 48 = .ok (.aload_n 0, 1) := by decide +kernel
theorem dX4_read_49 : decode cX4_read 49 = .ok (.getfield 29, 3) := by decide +kernel
theorem dX4_read_52 : decode cX4_read 52 = .ok (.invokevirtual 37, 3) := by decide +kernel
theorem dX4_read_55 : decode cX4_read 55 = .ok (.bipush 59, 2) := by decide +kernel
theorem dX4_read_57 : decode cX4_read 57 = .ok (.if_icmp .ne 7, 3) := by decide +kernel
theorem dX4_read_64 : decode cX4_read 64 = .ok (.iconst 0, 1) := by decide +kernel
theorem dX4_read_65 : decode cX4_read 65 = .ok (.istore_n 2, 1) := by decide +kernel
theorem dX4_read_66 : decode cX4_read 66 = .ok (.iload_n 2, 1) := by decide +kernel
theorem dX4_read_67 : decode cX4_read 67 = .ok (.ifCond .eq 16, 3) := by decide +kernel
theorem dX4_read_83 : decode cX4_read 83 = .ok (.aload_n 1, 1) := by decide +kernel
theorem dX4_read_84 : decode cX4_read 84 = .ok (.aload_n 0, 1) := by decide +kernel
theorem dX4_read_85 : decode cX4_read 85 = .ok (.getfield 29, 3) := by decide +kernel
theorem dX4_read_88 : decode cX4_read 88 = .ok (.invokevirtual 37, 3) := by decide +kernel
theorem dX4_read_91 : decode cX4_read 91 = .ok (.sipush 133, 3) := by decide +kernel
theorem dX4_read_94 : decode cX4_read 94 = .ok (.if_icmp .eq 13, 3) := by decide +kernel
theorem dX4_read_107 : decode cX4_read 107 = .ok (.iinc 3 1, 3) := by decide +kernel
theorem dX4_read_110 : decode cX4_read 110 = .ok (.goto (-82), 3) := by decide +kernel
theorem dX4_read_97 : decode cX4_read 97 = .ok (.aload_n 1, 1) := by decide +kernel
theorem dX4_read_98 : decode cX4_read 98 = .ok (.aload_n 0, 1) := by decide +kernel
theorem dX4_read_99 : decode cX4_read 99 = .ok (.getfield 29, 3) := by decide +kernel
theorem dX4_read_102 : decode cX4_read 102 = .ok (.iconst 0, 1) := by decide +kernel
theorem dX4_read_103 : decode cX4_read 103 = .ok (.invokevirtual 41, 3) := by decide +kernel
theorem dX4_read_106 : decode cX4_read 106 = .ok (.pop, 1) := by decide +kernel
theorem dX4_read_60 : decode cX4_read 60 = .ok (.iconst 1, 1) := by decide +kernel
theorem dX4_read_61 : decode cX4_read 61 = .ok (.goto 4, 3) := by decide +kernel
theorem dX4_read_70 : decode cX4_read 70 = .ok (.aload_n 0, 1) := by decide +kernel
theorem dX4_read_71 : decode cX4_read 71 = .ok (.dup, 1) := by decide +kernel
theorem dX4_read_72 : decode cX4_read 72 = .ok (.getfield 29, 3) := by decide +kernel
theorem dX4_read_75 : decode cX4_read 75 = .ok (.iconst 1, 1) := by decide +kernel
theorem dX4_read_76 : decode cX4_read 76 = .ok (.iadd, 1) := by decide +kernel
theorem dX4_read_77 : decode cX4_read 77 = .ok (.putfield 29, 3) := by decide +kernel
theorem dX4_read_80 : decode cX4_read 80 = .ok (.goto 27, 3) := by decide +kernel
theorem dX4_read_113 : decode cX4_read 113 = .ok (.aload_n 1, 1) := by decide +kernel
theorem dX4_read_114 : decode cX4_read 114 = .ok (.getfield 45, 3) := by decide +kernel
theorem dX4_read_117 : decode cX4_read 117 = .ok (.ireturn, 1) := by decide +kernel
theorem mv_X9_scan : MV RX9 yX9_scan cX9_scan 3 none 0 := ⟨mw_3_25, mw_3_26, mw_1_2, mw_3_27, ⟨rfl, by decide, by decide, by decide +kernel⟩⟩
theorem mv_X3_clear : MV RX3 yX3_clear cX3_clear 1 none 0 := ⟨mw_3_164, mw_3_165, mw_1_4, mw_3_166, ⟨rfl, by decide, by decide, by decide +kernel⟩⟩
theorem mv_X4_clause : MV RX4 yX4_clause cX4_clause 5 (some .boolean) 2 := ⟨mw_3_173, mp_1_5, mw_1_3, mw_3_174, ⟨rfl, by decide, by decide, by decide +kernel⟩⟩
set_option maxHeartbeats 4000000 in
set_option maxRecDepth 100000 in
theorem cy_X4_read (l : Launch) (D : va_G) (cA : Nat → ClassId) (L : List Nat) (T : Nat → Nat) (r : Rg) (hG : GR L T r) (hL : L.Nodup) (σ : Sg) (ρ : Lg) (hW : WT L ry T σ) (sz : Nat) (adK adV : Nat → Nat) (h0 : Nat) (mh0 : h0 ∈ L) (th0 : T h0 = 4) (h1 : Nat) (mh1 : h1 ∈ L) (th1 : T h1 = 9) : Met l yX4_read (.code yX4_read cX4_read 4 (some .int) :: wsA) ({ frames := 7, cells := 0, slots := 0, locals := 155 }) (PZ adK adV D cA L T r σ ρ sz [.ref h0, .ref h1]) (QI D cA L T r ry [(4, 1), (9, 5), (9, 6), (17, 6), (17, 7), (17, 8), (17, 9), (17, 10), (52, 1000), (53, 1000), (54, 1000), (90, 1000), (91, 1000), (92, 1000), (93, 1000), (94, 1000), (101, 6), (101, 7), (113, 1000), (114, 1000), (115, 1000), (116, 1000), (117, 1000), (118, 1000)] σ sz (fun x σ1 => True)) 0 0 (dm L sz) := by
  refine Met.ofW (cc := cX4_read) (maxL := 4) (ret := (some .int)) (by decide) rfl ?_
  intro p e s m args below meth c s₁ B hml hv
  obtain ⟨rfl, hsz, hP, hK, hN, hV⟩ := hv
  have hx := B.exec
  have hb := B.bytes
  have hr := B.returns
  have hts : ∀ w ∈ wsA, w.before _ s = true := fun w h => atoms_spec (ws := .code yX4_read cX4_read 4 (some .int) :: wsA) B.pre w (List.mem_cons_of_mem _ h)
  have hown : s.vm.findClass RX4 = some m.cls := findClass_of_methodNamed B.named
  subst hsz
  have hLA : LA (dm L s.heap.size) L := ⟨hL, fun a h => Or.inl h⟩
  have hA : ∀ q : Nat, s.heap.size ≤ q → dm L s.heap.size q := fun q h => Or.inr h
  have hS : va_S (dm L s.heap.size) s.heap s.heap [] := va_S.rf
  have hB : TS D cA L T r ry [(4, 1), (9, 5), (9, 6), (17, 6), (17, 7), (17, 8), (17, 9), (17, 10), (52, 1000), (53, 1000), (54, 1000), (90, 1000), (91, 1000), (92, 1000), (93, 1000), (94, 1000), (101, 6), (101, 7), (113, 1000), (114, 1000), (115, 1000), (116, 1000), (117, 1000), (118, 1000)] σ σ ρ s.heap := ⟨hP, hW, FR.rf⟩
  have hl := lv_entry ([.ref h0, .ref h1]) (n := 4) (Nat.le_of_ble_eq_true rfl)
  rw [lg_entry_eq]
  generalize (lg_sl ([.ref h0, .ref h1]) ++ List.replicate (4 - (lg_sl ([.ref h0, .ref h1])).length) Slot.unset).toArray = ls at hl ⊢
  have hl : lv_has ls 4 [(0, .ref h0), (1, .ref h1)] := hl
  refine lv_aload_n hx hb dX4_read_0 rfl (lv_at hl 1 rfl) ?_
  refine t_cv (va_runV (As := []) (rest := []) ⟨hx, hb, hml, hown, hts⟩ (cy_X9_scan l D cA L T r hG hLA.1 σ ρ hB.2.1 _ adK adV h1 mh1 th1) (cV hts mv_X9_scan mw_3_24 rfl rfl ⟨Nat.le_of_ble_eq_true rfl, Nat.le_of_ble_eq_true rfl⟩) (pVz hB.1 hK hN mh1 th1 (show shp cA 9 _ _ _ = .inr (9, Fs9 _ _ _) from rfl) rfl (hV.to hS)) rfl rfl hl.1 rfl (lv_room (Nat.le_of_ble_eq_true rfl)) dX4_read_1 ⟨Nat.le_of_ble_eq_true rfl, Nat.le_of_ble_eq_true rfl⟩) hLA hA hB hS (by decide) (fun σ_1 ρ_2 H locs hB fσ_1 pσ_1 hS => ?_)
  refine lv_aload_n hx hb dX4_read_4 rfl (lv_at hl 0 rfl) ?_
  refine t_gr hx hb hts hown hK hG hB mh0 th0 fq_4_0 rfl mw_1_213 dX4_read_5 (fun b_4 hb_4 mb_4 tb_4 => ?_)
  refine t_cv (va_runV (As := []) (rest := []) ⟨hx, hb, hml, hown, hts⟩ (cy_X3_clear l D cA L T r hG hLA.1 σ_1 ρ_2 hB.2.1 _ b_4 mb_4 tb_4) (cV hts mv_X3_clear mw_3_163 rfl rfl ⟨Nat.le_of_ble_eq_true rfl, Nat.le_of_ble_eq_true rfl⟩) (pV hB.1 hK hN mb_4 tb_4 (show shp cA 17 _ _ _ = .inr (3, Fs3 _ _ _) from rfl) rfl) rfl rfl hl.1 rfl (lv_room (Nat.le_of_ble_eq_true rfl)) dX4_read_8 ⟨Nat.le_of_ble_eq_true rfl, Nat.le_of_ble_eq_true rfl⟩) hLA hA hB hS (by decide) (fun σ_5 ρ_6 H locs hB fσ_5 pσ_5 hS => ?_)
  refine lv_aload_n hx hb dX4_read_11 rfl (lv_at hl 0 rfl) ?_
  refine t_gk hx hb hts hown hK hB mh0 th0 fq_4_0 hb_4 mw_1_213 dX4_read_12 ?_
  refine lv_iconst (v := 1) hx hb dX4_read_15 (by decide) ?_
  refine t_pi hx hb hts hown hK hLA hB hS mb_4 tb_4 fi_17_6 rfl rfl rfl (by decide) (by decide) (Or.inl (by decide)) mw_1_163 dX4_read_16 (fun H locs σ_8 eσ_8 hB hS => ?_)
  have k_9 : σ_8 b_4 6 = 1 := by rw [eσ_8]; exact up2_same _ _ _ _
  refine lv_aload_n hx hb dX4_read_19 rfl (lv_at hl 0 rfl) ?_
  refine lv_iconst (v := 0) hx hb dX4_read_20 (by decide) ?_
  refine t_pi hx hb hts hown hK hLA hB hS mh0 th0 fi_4_1 rfl rfl rfl (i_lo _) (i_hi _) (Or.inl (by decide)) mw_1_215 dX4_read_21 (fun H locs σ_10 eσ_10 hB hS => ?_)
  have k_11 : σ_10 h0 1 = 0 := by rw [eσ_10]; exact up2_same _ _ _ _
  refine lv_iconst (v := 1) hx hb dX4_read_24 (by decide) ?_
  refine lv_istore_n (lv' := [(2, .int 1), (0, .ref h0), (1, .ref h1)]) hx hb dX4_read_25 rfl hl (by decide) rfl (fun ls hl => ?_)
  refine lv_iconst (v := 0) hx hb dX4_read_26 (by decide) ?_
  refine lv_istore_n (lv' := [(3, .int 0), (2, .int 1), (0, .ref h0), (1, .ref h1)]) hx hb dX4_read_27 rfl hl (by decide) rfl (fun ls hl => ?_)
  have k_12 : σ_10 b_4 6 = 1 := by rw [eσ_10, up2_nej _ _ (by decide)]; exact k_9
  refine w_loop (α := Int32 × Int32 × Sg × Lg) (fun (i_13, i_14, σ_15, ρ_16) H locs ls => 0 ≤ i_13.toInt ∧ i_13.toInt ≤ 1 ∧ 0 ≤ i_14.toInt ∧ i_14.toInt ≤ 41 ∧ σ_15 b_4 6 = 1 ∧ TS D cA L T r ry [(4, 1), (9, 5), (9, 6), (17, 6), (17, 7), (17, 8), (17, 9), (17, 10), (52, 1000), (53, 1000), (54, 1000), (90, 1000), (91, 1000), (92, 1000), (93, 1000), (94, 1000), (101, 6), (101, 7), (113, 1000), (114, 1000), (115, 1000), (116, 1000), (117, 1000), (118, 1000)] σ σ_15 ρ_16 H ∧ va_S (dm L s.heap.size) s.heap H locs ∧ lv_has ls 4 [(3, .int i_14), (2, .int i_13), (0, .ref h0), (1, .ref h1)]) (fun (i_13, i_14, σ_15, ρ_16) => (41 - i_14.toInt).toNat) ?_ ⟨1, 0, σ_10, ρ_6⟩ ⟨(by decide), (by decide), (by decide), (by decide), k_12, hB, hS, lv_sub hl [0, 1, 2, 3] rfl⟩
  rintro ⟨i_13, i_14, σ_15, ρ_16⟩ H locs ls ⟨li_13, ui_13, li_14, ui_14, k_18, hB, hS, hl⟩ ih_17
  refine lv_iload_n hx hb dX4_read_28 rfl (lv_at hl 0 rfl) ?_
  refine lv_bipush (v := 40) hx hb dX4_read_29 (by decide) ?_
  refine lv_icmp_gt (tgt := 113) hx hb dX4_read_31 (by decide) (fun c_19 => ?_) (fun c_19 => ?_)
  · skip
    have uc_19 := i_gt (n := 40) (by decide) c_19
    refine lv_aload_n hx hb dX4_read_113 rfl (lv_at hl 3 rfl) ?_
    refine t_gi hx hb hts hown hK hB mh1 th1 fi_9_6 rfl mw_1_44 dX4_read_114 (fun x_20 ex_20 lx_20 ux_20 => ?_)
    have cx_20 := congrArg Int32.toInt ex_20
    exact W.iret (v := x_20) hx hb hr (fun t ht hW => ⟨⟨x_20, (σ_15, ρ_16), rfl, ⟨hB.2.1, hB.2.2, trivial⟩, (show TP D cA L T r σ_15 ρ_16 t.heap from by rw [ht]; exact hB.1)⟩, hS.F ht⟩) hS.2.2 dX4_read_117
  · skip
    have uc_19 := i_ngt (n := 40) (by decide) c_19
    refine lv_iload_n hx hb dX4_read_34 rfl (lv_at hl 1 rfl) ?_
    refine lv_if_eq (tgt := 113) hx hb dX4_read_35 (by decide) (fun c_21 => ?_) (fun c_21 => ?_)
    · skip
      have uc_21 := i_eq (n := 0) (by decide) c_21
      refine lv_aload_n hx hb dX4_read_113 rfl (lv_at hl 3 rfl) ?_
      refine t_gi hx hb hts hown hK hB mh1 th1 fi_9_6 rfl mw_1_44 dX4_read_114 (fun x_22 ex_22 lx_22 ux_22 => ?_)
      have cx_22 := congrArg Int32.toInt ex_22
      exact W.iret (v := x_22) hx hb hr (fun t ht hW => ⟨⟨x_22, (σ_15, ρ_16), rfl, ⟨hB.2.1, hB.2.2, trivial⟩, (show TP D cA L T r σ_15 ρ_16 t.heap from by rw [ht]; exact hB.1)⟩, hS.F ht⟩) hS.2.2 dX4_read_117
    · skip
      have uc_21 := i_ne (n := 0) (by decide) c_21
      refine lv_aload_n hx hb dX4_read_38 rfl (lv_at hl 2 rfl) ?_
      refine lv_aload_n hx hb dX4_read_39 rfl (lv_at hl 3 rfl) ?_
      refine lv_iload_n hx hb dX4_read_40 rfl (lv_at hl 0 rfl) ?_
      refine t_ci (va_runV (As := [.ref h1, .int i_14]) (rest := []) ⟨hx, hb, hml, hown, hts⟩ (cy_X4_clause l D cA L T r hG hLA.1 σ_15 ρ_16 hB.2.1 _ h0 mh0 th0 h1 mh1 th1 i_14 b_4 hb_4 mb_4 tb_4) (cV hts mv_X4_clause mw_3_171 rfl rfl ⟨Nat.le_of_ble_eq_true rfl, Nat.le_of_ble_eq_true rfl⟩) (pV hB.1 hK hN mh0 th0 (show shp cA 4 _ _ _ = .inr (4, Fs4 _ _ _) from rfl) rfl) rfl rfl hl.1 rfl (lv_room (Nat.le_of_ble_eq_true rfl)) dX4_read_41 ⟨Nat.le_of_ble_eq_true rfl, Nat.le_of_ble_eq_true rfl⟩) hLA hA hB hS (by decide) (fun x_25 σ_23 ρ_24 H locs hB fσ_23 pσ_23 hS => ?_)
      obtain ⟨lx_25, ux_25⟩ := pσ_23
      refine lv_if_eq (tgt := 113) hx hb dX4_read_44 (by decide) (fun c_26 => ?_) (fun c_26 => ?_)
      · skip
        have uc_26 := i_eq (n := 0) (by decide) c_26
        refine lv_aload_n hx hb dX4_read_113 rfl (lv_at hl 3 rfl) ?_
        refine t_gi hx hb hts hown hK hB mh1 th1 fi_9_6 rfl mw_1_44 dX4_read_114 (fun x_27 ex_27 lx_27 ux_27 => ?_)
        have cx_27 := congrArg Int32.toInt ex_27
        exact W.iret (v := x_27) hx hb hr (fun t ht hW => ⟨⟨x_27, (σ_23, ρ_24), rfl, ⟨hB.2.1, hB.2.2, trivial⟩, (show TP D cA L T r σ_23 ρ_24 t.heap from by rw [ht]; exact hB.1)⟩, hS.F ht⟩) hS.2.2 dX4_read_117
      · skip
        have uc_26 := i_ne (n := 0) (by decide) c_26
        refine lv_aload_n hx hb dX4_read_47 rfl (lv_at hl 3 rfl) ?_
        refine lv_aload_n hx hb dX4_read_48 rfl (lv_at hl 2 rfl) ?_
        refine t_gi hx hb hts hown hK hB mh0 th0 fi_4_1 rfl mw_1_215 dX4_read_49 (fun x_28 ex_28 lx_28 ux_28 => ?_)
        have cx_28 := congrArg Int32.toInt ex_28
        refine t_ci (va_runV (As := [.int x_28]) (rest := []) ⟨hx, hb, hml, hown, hts⟩ (cy_X9_kindAt l D cA L T r hG hLA.1 σ_23 ρ_24 hB.2.1 _ h1 mh1 th1 x_28) (cV hts mv_X9_kindAt mw_3_175 rfl rfl ⟨Nat.le_of_ble_eq_true rfl, Nat.le_of_ble_eq_true rfl⟩) (pV hB.1 hK hN mh1 th1 (show shp cA 9 _ _ _ = .inr (9, Fs9 _ _ _) from rfl) rfl) rfl rfl hl.1 rfl (lv_room (Nat.le_of_ble_eq_true rfl)) dX4_read_52 ⟨Nat.le_of_ble_eq_true rfl, Nat.le_of_ble_eq_true rfl⟩) hLA hA hB hS (by decide) (fun x_31 σ_29 ρ_30 H locs hB fσ_29 pσ_29 hS => ?_)
        have qσ_29 := FR.nil fσ_29
        subst qσ_29
        obtain ⟨lx_31, ux_31⟩ := pσ_29
        refine lv_bipush (v := 59) hx hb dX4_read_55 (by decide) ?_
        refine lv_icmp_ne (tgt := 64) hx hb dX4_read_57 (by decide) (fun c_32 => ?_) (fun c_32 => ?_)
        · skip
          have uc_32 := i_ne (n := 59) (by decide) c_32
          refine lv_iconst (v := 0) hx hb dX4_read_64 (by decide) ?_
          refine lv_istore_n (lv' := [(2, .int 0), (3, .int i_14), (0, .ref h0), (1, .ref h1)]) hx hb dX4_read_65 rfl hl (by decide) rfl (fun ls hl => ?_)
          refine lv_iload_n hx hb dX4_read_66 rfl (lv_at hl 0 rfl) ?_
          refine lv_if_eq (tgt := 83) hx hb dX4_read_67 (by decide) (fun _ => ?_) (fun c9 => absurd (by decide) c9)
          refine lv_aload_n hx hb dX4_read_83 rfl (lv_at hl 3 rfl) ?_
          refine lv_aload_n hx hb dX4_read_84 rfl (lv_at hl 2 rfl) ?_
          refine t_gv hx hb hts hown hK hB mh0 th0 fi_4_1 ex_28.symm mw_1_215 dX4_read_85 ?_
          refine t_ci (va_runV (As := [.int x_28]) (rest := []) ⟨hx, hb, hml, hown, hts⟩ (cy_X9_kindAt l D cA L T r hG hLA.1 σ_23 ρ_30 hB.2.1 _ h1 mh1 th1 x_28) (cV hts mv_X9_kindAt mw_3_175 rfl rfl ⟨Nat.le_of_ble_eq_true rfl, Nat.le_of_ble_eq_true rfl⟩) (pV hB.1 hK hN mh1 th1 (show shp cA 9 _ _ _ = .inr (9, Fs9 _ _ _) from rfl) rfl) rfl rfl hl.1 rfl (lv_room (Nat.le_of_ble_eq_true rfl)) dX4_read_88 ⟨Nat.le_of_ble_eq_true rfl, Nat.le_of_ble_eq_true rfl⟩) hLA hA hB hS (by decide) (fun x_35 σ_33 ρ_34 H locs hB fσ_33 pσ_33 hS => ?_)
          have qσ_33 := FR.nil fσ_33
          subst qσ_33
          obtain ⟨lx_35, ux_35⟩ := pσ_33
          refine lv_sipush (v := 133) hx hb dX4_read_91 (by decide) ?_
          refine lv_icmp_eq (tgt := 107) hx hb dX4_read_94 (by decide) (fun c_36 => ?_) (fun c_36 => ?_)
          · skip
            have uc_36 := i_eq (n := 133) (by decide) c_36
            obtain ⟨x_37, ex_37⟩ : ∃ y : Int32, y = i_14 + 1 := ⟨_, rfl⟩
            have vx_37 := b_add (rfl : i_14.toInt = _) (by decide : (1 : Int32).toInt = 1) ex_37 (by omega) (by omega)
            refine lv_iinc (v := x_37) (lv' := [(3, .int x_37), (2, .int 0), (0, .ref h0), (1, .ref h1)]) hx hb dX4_read_107 hl (k := 1) rfl (by rw [ex_37]; rfl) (by decide) rfl (fun ls hl => ?_)
            refine lv_goto (tgt := 28) hx hb dX4_read_110 (by decide) ?_
            have k_38 : σ_23 b_4 6 = 1 := (FR.at fσ_23 tb_4 (by decide)).trans k_18
            exact ih_17 ⟨0, x_37, σ_23, ρ_34⟩ _ _ _ ⟨(by decide), (by decide), (by omega), (by omega), k_38, hB, hS, lv_sub hl [0, 1, 2, 3] rfl⟩ (by show (41 - x_37.toInt).toNat < (41 - i_14.toInt).toNat; omega)
          · skip
            have uc_36 := i_ne (n := 133) (by decide) c_36
            refine lv_aload_n hx hb dX4_read_97 rfl (lv_at hl 3 rfl) ?_
            refine lv_aload_n hx hb dX4_read_98 rfl (lv_at hl 2 rfl) ?_
            refine t_gv hx hb hts hown hK hB mh0 th0 fi_4_1 ex_28.symm mw_1_215 dX4_read_99 ?_
            refine lv_iconst (v := 0) hx hb dX4_read_102 (by decide) ?_
            refine t_ci (va_runV (As := [.int x_28, .int 0]) (rest := []) ⟨hx, hb, hml, hown, hts⟩ (cy_X9_wrong l D cA L T r hG hLA.1 σ_23 ρ_34 hB.2.1 _ h1 mh1 th1 x_28 0 (by first | omega | decide) (by first | omega | decide)) (cV hts mv_X9_wrong mw_3_183 rfl rfl ⟨Nat.le_of_ble_eq_true rfl, Nat.le_of_ble_eq_true rfl⟩) (pV hB.1 hK hN mh1 th1 (show shp cA 9 _ _ _ = .inr (9, Fs9 _ _ _) from rfl) rfl) rfl rfl hl.1 rfl (lv_room (Nat.le_of_ble_eq_true rfl)) dX4_read_103 ⟨Nat.le_of_ble_eq_true rfl, Nat.le_of_ble_eq_true rfl⟩) hLA hA hB hS (by decide) (fun x_41 σ_39 ρ_40 H locs hB fσ_39 pσ_39 hS => ?_)
            obtain ⟨g_42, g_43⟩ := pσ_39
            subst g_42
            refine lv_pop hx hb dX4_read_106 rfl ?_
            obtain ⟨x_44, ex_44⟩ : ∃ y : Int32, y = i_14 + 1 := ⟨_, rfl⟩
            have vx_44 := b_add (rfl : i_14.toInt = _) (by decide : (1 : Int32).toInt = 1) ex_44 (by omega) (by omega)
            refine lv_iinc (v := x_44) (lv' := [(3, .int x_44), (2, .int 0), (0, .ref h0), (1, .ref h1)]) hx hb dX4_read_107 hl (k := 1) rfl (by rw [ex_44]; rfl) (by decide) rfl (fun ls hl => ?_)
            refine lv_goto (tgt := 28) hx hb dX4_read_110 (by decide) ?_
            have k_45 : σ_23 b_4 6 = 1 := (FR.at fσ_23 tb_4 (by decide)).trans k_18
            have k_46 : σ_39 b_4 6 = 1 := (FR.at fσ_39 tb_4 (by decide)).trans k_45
            exact ih_17 ⟨0, x_44, σ_39, ρ_40⟩ _ _ _ ⟨(by decide), (by decide), (by omega), (by omega), k_46, hB, hS, lv_sub hl [0, 1, 2, 3] rfl⟩ (by show (41 - x_44.toInt).toNat < (41 - i_14.toInt).toNat; omega)
        · skip
          have uc_32 := i_eq (n := 59) (by decide) c_32
          refine lv_iconst (v := 1) hx hb dX4_read_60 (by decide) ?_
          refine lv_goto (tgt := 65) hx hb dX4_read_61 (by decide) ?_
          refine lv_istore_n (lv' := [(2, .int 1), (3, .int i_14), (0, .ref h0), (1, .ref h1)]) hx hb dX4_read_65 rfl hl (by decide) rfl (fun ls hl => ?_)
          refine lv_iload_n hx hb dX4_read_66 rfl (lv_at hl 0 rfl) ?_
          refine lv_if_eq (tgt := 83) hx hb dX4_read_67 (by decide) (fun c9 => absurd c9 (by decide)) (fun _ => ?_)
          refine lv_aload_n hx hb dX4_read_70 rfl (lv_at hl 2 rfl) ?_
          refine lv_dup hx hb dX4_read_71 rfl ?_
          refine t_gv hx hb hts hown hK hB mh0 th0 fi_4_1 ex_28.symm mw_1_215 dX4_read_72 ?_
          refine lv_iconst (v := 1) hx hb dX4_read_75 (by decide) ?_
          refine lv_iadd hx hb dX4_read_76 ?_
          refine lv_topi (fun x_47 ex_47 => ?_)
          try have vx_47 := b_add (rfl : x_28.toInt = _) (by decide : (1 : Int32).toInt = 1) ex_47 (by omega) (by omega)
          refine t_pi hx hb hts hown hK hLA hB hS mh0 th0 fi_4_1 rfl rfl rfl (i_lo _) (i_hi _) (Or.inl (by decide)) mw_1_215 dX4_read_77 (fun H locs σ_48 eσ_48 hB hS => ?_)
          have k_49 : σ_48 h0 1 = x_47 := by rw [eσ_48]; exact up2_same _ _ _ _
          refine lv_goto (tgt := 107) hx hb dX4_read_80 (by decide) ?_
          obtain ⟨x_50, ex_50⟩ : ∃ y : Int32, y = i_14 + 1 := ⟨_, rfl⟩
          have vx_50 := b_add (rfl : i_14.toInt = _) (by decide : (1 : Int32).toInt = 1) ex_50 (by omega) (by omega)
          refine lv_iinc (v := x_50) (lv' := [(3, .int x_50), (2, .int 1), (0, .ref h0), (1, .ref h1)]) hx hb dX4_read_107 hl (k := 1) rfl (by rw [ex_50]; rfl) (by decide) rfl (fun ls hl => ?_)
          refine lv_goto (tgt := 28) hx hb dX4_read_110 (by decide) ?_
          have k_51 : σ_23 b_4 6 = 1 := (FR.at fσ_23 tb_4 (by decide)).trans k_18
          have k_52 : σ_48 b_4 6 = 1 := by rw [eσ_48, up2_nej _ _ (by decide)]; exact k_51
          exact ih_17 ⟨1, x_50, σ_48, ρ_30⟩ _ _ _ ⟨(by decide), (by decide), (by omega), (by omega), k_52, hB, hS, lv_sub hl [0, 1, 2, 3] rfl⟩ (by show (41 - x_50.toInt).toNat < (41 - i_14.toInt).toNat; omega)
theorem mw_4_23 : (.methodLink RX7 26 yX9_scan : Cond) ∈ wsA := wsA_t (List.mem_append_right _ (List.mem_append_right _ (List.mem_append_right _ (List.mem_append_left _ (List.mem_of_getElem? (l := tables_1_4) (i := 23) rfl))))) rfl
theorem mw_4_26 : (.instanceMethod yX7_beginsClause : Cond) ∈ wsA := wsA_t (List.mem_append_right _ (List.mem_append_right _ (List.mem_append_right _ (List.mem_append_left _ (List.mem_of_getElem? (l := tables_1_4) (i := 26) rfl))))) rfl
theorem mp_1_15 : (.selects RX7 yX7_beginsClause yX7_beginsClause : Cond) ∈ wsA := wsA_p (q := (yX7_beginsClause, 8)) (List.mem_append_left _ (List.mem_of_getElem? (l := lw_privs_1) (i := 15) rfl))
theorem mw_4_27 : (.code yX7_beginsClause cX7_beginsClause 2 (some .boolean) : Cond) ∈ wsA := wsA_t (List.mem_append_right _ (List.mem_append_right _ (List.mem_append_right _ (List.mem_append_left _ (List.mem_of_getElem? (l := tables_1_4) (i := 27) rfl))))) rfl
theorem mw_4_24 : (.methodLink RX7 42 yX7_beginsClause : Cond) ∈ wsA := wsA_t (List.mem_append_right _ (List.mem_append_right _ (List.mem_append_right _ (List.mem_append_left _ (List.mem_of_getElem? (l := tables_1_4) (i := 24) rfl))))) rfl
theorem mw_1_43 : (.fieldLink RX7 57 "HillBends$Tape" "fault" "I" : Cond) ∈ wsA := wsA_t (List.mem_append_left _ (List.mem_of_getElem? (l := tables_1_1) (i := 43) rfl)) rfl
theorem dX7_read_0 : decode cX7_read 0 = .ok (.aload_n 1, 1) := by decide +kernel
theorem dX7_read_1 : decode cX7_read 1 = .ok (.invokevirtual 26, 3) := by decide +kernel
theorem dX7_read_4 : decode cX7_read 4 = .ok (.aload_n 0, 1) := by decide +kernel
theorem dX7_read_5 : decode cX7_read 5 = .ok (.iconst 0, 1) := by decide +kernel
theorem dX7_read_6 : decode cX7_read 6 = .ok (.putfield 29, 3) := by decide +kernel
theorem dX7_read_9 : decode cX7_read 9 = .ok (.aload_n 0, 1) := by decide +kernel
theorem dX7_read_10 : decode cX7_read 10 = .ok (.iconst 0, 1) := by decide +kernel
theorem dX7_read_11 : decode cX7_read 11 = .ok (.putfield 33, 3) := by decide +kernel
theorem dX7_read_14 : decode cX7_read 14 = .ok (.aload_n 0, 1) := by decide +kernel
theorem dX7_read_15 : decode cX7_read 15 = .ok (.iconst 0, 1) := by decide +kernel
theorem dX7_read_16 : decode cX7_read 16 = .ok (.putfield 36, 3) := by decide +kernel
theorem dX7_read_19 : decode cX7_read 19 = .ok (.aload_n 0, 1) := by decide +kernel
theorem dX7_read_20 : decode cX7_read 20 = .ok (.iconst 0, 1) := by decide +kernel
theorem dX7_read_21 : decode cX7_read 21 = .ok (.putfield 39, 3) := by decide +kernel
theorem dX7_read_24 : decode cX7_read 24 = .ok (.iconst 1, 1) := by decide +kernel
theorem dX7_read_25 : decode cX7_read 25 = .ok (.istore_n 2, 1) := by decide +kernel
theorem dX7_read_26 : decode cX7_read 26 = .ok (.iconst 0, 1) := by decide +kernel
theorem dX7_read_27 : decode cX7_read 27 = .ok (.istore_n 3, 1) := by decide +kernel
theorem dX7_read_28 : decode cX7_read 28 = .ok (.iload_n 3, 1) := by decide +kernel
theorem dX7_read_29 : decode cX7_read 29 = .ok (.bipush 12, 2) := by decide +kernel
theorem dX7_read_31 : decode cX7_read 31 = .ok (.if_icmp .gt 162, 3) := by decide +kernel
theorem dX7_read_34 : decode cX7_read 34 = .ok (.iload_n 2, 1) := by decide +kernel
theorem dX7_read_35 : decode cX7_read 35 = .ok (.ifCond .eq 158, 3) := by decide +kernel
theorem dX7_read_38 : decode cX7_read 38 = .ok (.aload_n 0, 1) := by decide +kernel
theorem dX7_read_39 : decode cX7_read 39 = .ok (.aload_n 1, 1) := by decide +kernel
theorem dX7_read_40 : decode cX7_read 40 = .ok (.invokevirtual 42, 3) := by decide +kernel
theorem dX7_read_43 : decode cX7_read 43 = .ok (.ifCond .eq 150, 3) := by decide +kernel
theorem dX7_read_46 : decode cX7_read 46 = .ok (.aload_n 0, 1) := by decide +kernel
theorem dX7_read_47 : decode cX7_read 47 = .ok (.aload_n 1, 1) := by decide +kernel
theorem dX7_read_48 : decode cX7_read 48 = .ok (.invokevirtual 46, 3) := by decide +kernel
theorem dX7_read_51 : decode cX7_read 51 = .ok (.ifCond .eq 142, 3) := by decide +kernel
theorem dX7_read_54 : decode cX7_read 54 = .ok (.aload_n 0, 1) := by decide +kernel
theorem dX7_read_55 : decode cX7_read 55 = .ok (.getfield 20, 3) := by decide +kernel
theorem dX7_read_58 : decode cX7_read 58 = .ok (.aload_n 0, 1) := by decide +kernel
theorem dX7_read_59 : decode cX7_read 59 = .ok (.getfield 29, 3) := by decide +kernel
theorem dX7_read_62 : decode cX7_read 62 = .ok (.aload_n 0, 1) := by decide +kernel
theorem dX7_read_63 : decode cX7_read 63 = .ok (.getfield 33, 3) := by decide +kernel
theorem dX7_read_66 : decode cX7_read 66 = .ok (.iastore, 1) := by decide +kernel
theorem dX7_read_67 : decode cX7_read 67 = .ok (.aload_n 1, 1) := by decide +kernel
theorem dX7_read_68 : decode cX7_read 68 = .ok (.aload_n 0, 1) := by decide +kernel
theorem dX7_read_69 : decode cX7_read 69 = .ok (.getfield 36, 3) := by decide +kernel
theorem dX7_read_72 : decode cX7_read 72 = .ok (.bipush 7, 2) := by decide +kernel
theorem dX7_read_74 : decode cX7_read 74 = .ok (.invokevirtual 49, 3) := by decide +kernel
theorem dX7_read_77 : decode cX7_read 77 = .ok (.ifCond .eq 27, 3) := by decide +kernel
theorem dX7_read_104 : decode cX7_read 104 = .ok (.aload_n 0, 1) := by decide +kernel
theorem dX7_read_105 : decode cX7_read 105 = .ok (.getfield 23, 3) := by decide +kernel
theorem dX7_read_108 : decode cX7_read 108 = .ok (.aload_n 0, 1) := by decide +kernel
theorem dX7_read_109 : decode cX7_read 109 = .ok (.getfield 29, 3) := by decide +kernel
theorem dX7_read_112 : decode cX7_read 112 = .ok (.aload_n 0, 1) := by decide +kernel
theorem dX7_read_113 : decode cX7_read 113 = .ok (.getfield 33, 3) := by decide +kernel
theorem dX7_read_116 : decode cX7_read 116 = .ok (.iastore, 1) := by decide +kernel
theorem dX7_read_117 : decode cX7_read 117 = .ok (.aload_n 0, 1) := by decide +kernel
theorem dX7_read_118 : decode cX7_read 118 = .ok (.dup, 1) := by decide +kernel
theorem dX7_read_119 : decode cX7_read 119 = .ok (.getfield 29, 3) := by decide +kernel
theorem dX7_read_122 : decode cX7_read 122 = .ok (.iconst 1, 1) := by decide +kernel
theorem dX7_read_123 : decode cX7_read 123 = .ok (.iadd, 1) := by decide +kernel
theorem dX7_read_124 : decode cX7_read 124 = .ok (.putfield 29, 3) := by decide +kernel
theorem dX7_read_127 : decode cX7_read 127 = .ok (.aload_n 1, 1) := by decide +kernel
theorem dX7_read_128 : decode cX7_read 128 = .ok (.aload_n 0, 1) := by decide +kernel
theorem dX7_read_129 : decode cX7_read 129 = .ok (.getfield 36, 3) := by decide +kernel
theorem dX7_read_132 : decode cX7_read 132 = .ok (.invokevirtual 60, 3) := by decide +kernel
theorem dX7_read_135 : decode cX7_read 135 = .ok (.bipush 59, 2) := by decide +kernel
theorem dX7_read_137 : decode cX7_read 137 = .ok (.if_icmp .ne 7, 3) := by decide +kernel
theorem dX7_read_144 : decode cX7_read 144 = .ok (.iconst 0, 1) := by decide +kernel
theorem dX7_read_145 : decode cX7_read 145 = .ok (.istore_n 2, 1) := by decide +kernel
theorem dX7_read_146 : decode cX7_read 146 = .ok (.iload_n 2, 1) := by decide +kernel
theorem dX7_read_147 : decode cX7_read 147 = .ok (.ifCond .eq 16, 3) := by decide +kernel
theorem dX7_read_163 : decode cX7_read 163 = .ok (.aload_n 1, 1) := by decide +kernel
theorem dX7_read_164 : decode cX7_read 164 = .ok (.aload_n 0, 1) := by decide +kernel
theorem dX7_read_165 : decode cX7_read 165 = .ok (.getfield 36, 3) := by decide +kernel
theorem dX7_read_168 : decode cX7_read 168 = .ok (.invokevirtual 60, 3) := by decide +kernel
theorem dX7_read_171 : decode cX7_read 171 = .ok (.sipush 133, 3) := by decide +kernel
theorem dX7_read_174 : decode cX7_read 174 = .ok (.if_icmp .eq 13, 3) := by decide +kernel
theorem dX7_read_187 : decode cX7_read 187 = .ok (.iinc 3 1, 3) := by decide +kernel
theorem dX7_read_190 : decode cX7_read 190 = .ok (.goto (-162), 3) := by decide +kernel
theorem dX7_read_177 : decode cX7_read 177 = .ok (.aload_n 1, 1) := by decide +kernel
theorem dX7_read_178 : decode cX7_read 178 = .ok (.aload_n 0, 1) := by decide +kernel
theorem dX7_read_179 : decode cX7_read 179 = .ok (.getfield 36, 3) := by decide +kernel
theorem dX7_read_182 : decode cX7_read 182 = .ok (.iconst 0, 1) := by decide +kernel
theorem dX7_read_183 : decode cX7_read 183 = .ok (.invokevirtual 64, 3) := by decide +kernel
theorem dX7_read_186 : decode cX7_read 186 = .ok (.pop, 1) := by decide +kernel
theorem dX7_read_140 : decode cX7_read 140 = .ok (.iconst 1, 1) := by decide +kernel
theorem dX7_read_141 : decode cX7_read 141 = .ok (.goto 4, 3) := by decide +kernel
theorem dX7_read_150 : decode cX7_read 150 = .ok (.aload_n 0, 1) := by decide +kernel
theorem dX7_read_151 : decode cX7_read 151 = .ok (.dup, 1) := by decide +kernel
theorem dX7_read_152 : decode cX7_read 152 = .ok (.getfield 36, 3) := by decide +kernel
theorem dX7_read_155 : decode cX7_read 155 = .ok (.iconst 1, 1) := by decide +kernel
theorem dX7_read_156 : decode cX7_read 156 = .ok (.iadd, 1) := by decide +kernel
theorem dX7_read_157 : decode cX7_read 157 = .ok (.putfield 36, 3) := by decide +kernel
theorem dX7_read_160 : decode cX7_read 160 = .ok (.goto 27, 3) := by decide +kernel
theorem dX7_read_80 : decode cX7_read 80 = .ok (.aload_n 0, 1) := by decide +kernel
theorem dX7_read_81 : decode cX7_read 81 = .ok (.dup, 1) := by decide +kernel
theorem dX7_read_82 : decode cX7_read 82 = .ok (.getfield 36, 3) := by decide +kernel
theorem dX7_read_85 : decode cX7_read 85 = .ok (.iconst 1, 1) := by decide +kernel
theorem dX7_read_86 : decode cX7_read 86 = .ok (.iadd, 1) := by decide +kernel
theorem dX7_read_87 : decode cX7_read 87 = .ok (.putfield 36, 3) := by decide +kernel
theorem dX7_read_90 : decode cX7_read 90 = .ok (.aload_n 0, 1) := by decide +kernel
theorem dX7_read_91 : decode cX7_read 91 = .ok (.aload_n 1, 1) := by decide +kernel
theorem dX7_read_92 : decode cX7_read 92 = .ok (.iconst 0, 1) := by decide +kernel
theorem dX7_read_93 : decode cX7_read 93 = .ok (.invokevirtual 53, 3) := by decide +kernel
theorem dX7_read_96 : decode cX7_read 96 = .ok (.ifCond .ne 8, 3) := by decide +kernel
theorem dX7_read_99 : decode cX7_read 99 = .ok (.aload_n 1, 1) := by decide +kernel
theorem dX7_read_100 : decode cX7_read 100 = .ok (.getfield 57, 3) := by decide +kernel
theorem dX7_read_103 : decode cX7_read 103 = .ok (.ireturn, 1) := by decide +kernel
theorem dX7_read_193 : decode cX7_read 193 = .ok (.aload_n 1, 1) := by decide +kernel
theorem dX7_read_194 : decode cX7_read 194 = .ok (.getfield 57, 3) := by decide +kernel
theorem dX7_read_197 : decode cX7_read 197 = .ok (.ireturn, 1) := by decide +kernel
theorem mv_X7_beginsClause : MV RX7 yX7_beginsClause cX7_beginsClause 2 (some .boolean) 1 := ⟨mw_4_26, mp_1_15, mw_1_12, mw_4_27, ⟨rfl, by decide, by decide, by decide +kernel⟩⟩
set_option maxHeartbeats 4000000 in
set_option maxRecDepth 100000 in
theorem cy_X7_read (l : Launch) (D : va_G) (cA : Nat → ClassId) (L : List Nat) (T : Nat → Nat) (r : Rg) (hG : GR L T r) (hL : L.Nodup) (σ : Sg) (ρ : Lg) (hW : WT L ry T σ) (sz : Nat) (adK adV : Nat → Nat) (h0 : Nat) (mh0 : h0 ∈ L) (th0 : T h0 = 7) (h1 : Nat) (mh1 : h1 ∈ L) (th1 : T h1 = 9) : Met l yX7_read (.code yX7_read cX7_read 4 (some .int) :: wsA) ({ frames := 26, cells := 0, slots := 0, locals := 646 }) (PZ adK adV D cA L T r σ ρ sz [.ref h0, .ref h1]) (QI D cA L T r ry [(7, 4), (7, 5), (7, 6), (7, 7), (9, 5), (9, 6), (41, 1000), (42, 1000), (43, 1000), (44, 1000), (52, 1000), (53, 1000), (54, 1000)] σ sz (fun x σ1 => True)) 0 0 (dm L sz) := by
  refine Met.ofW (cc := cX7_read) (maxL := 4) (ret := (some .int)) (by decide) rfl ?_
  intro p e s m args below meth c s₁ B hml hv
  obtain ⟨rfl, hsz, hP, hK, hN, hV⟩ := hv
  have hx := B.exec
  have hb := B.bytes
  have hr := B.returns
  have hts : ∀ w ∈ wsA, w.before _ s = true := fun w h => atoms_spec (ws := .code yX7_read cX7_read 4 (some .int) :: wsA) B.pre w (List.mem_cons_of_mem _ h)
  have hown : s.vm.findClass RX7 = some m.cls := findClass_of_methodNamed B.named
  subst hsz
  have hLA : LA (dm L s.heap.size) L := ⟨hL, fun a h => Or.inl h⟩
  have hA : ∀ q : Nat, s.heap.size ≤ q → dm L s.heap.size q := fun q h => Or.inr h
  have hS : va_S (dm L s.heap.size) s.heap s.heap [] := va_S.rf
  have hB : TS D cA L T r ry [(7, 4), (7, 5), (7, 6), (7, 7), (9, 5), (9, 6), (41, 1000), (42, 1000), (43, 1000), (44, 1000), (52, 1000), (53, 1000), (54, 1000)] σ σ ρ s.heap := ⟨hP, hW, FR.rf⟩
  have hl := lv_entry ([.ref h0, .ref h1]) (n := 4) (Nat.le_of_ble_eq_true rfl)
  rw [lg_entry_eq]
  generalize (lg_sl ([.ref h0, .ref h1]) ++ List.replicate (4 - (lg_sl ([.ref h0, .ref h1])).length) Slot.unset).toArray = ls at hl ⊢
  have hl : lv_has ls 4 [(0, .ref h0), (1, .ref h1)] := hl
  refine lv_aload_n hx hb dX7_read_0 rfl (lv_at hl 1 rfl) ?_
  refine t_cv (va_runV (As := []) (rest := []) ⟨hx, hb, hml, hown, hts⟩ (cy_X9_scan l D cA L T r hG hLA.1 σ ρ hB.2.1 _ adK adV h1 mh1 th1) (cV hts mv_X9_scan mw_4_23 rfl rfl ⟨Nat.le_of_ble_eq_true rfl, Nat.le_of_ble_eq_true rfl⟩) (pVz hB.1 hK hN mh1 th1 (show shp cA 9 _ _ _ = .inr (9, Fs9 _ _ _) from rfl) rfl (hV.to hS)) rfl rfl hl.1 rfl (lv_room (Nat.le_of_ble_eq_true rfl)) dX7_read_1 ⟨Nat.le_of_ble_eq_true rfl, Nat.le_of_ble_eq_true rfl⟩) hLA hA hB hS (by decide) (fun σ_1 ρ_2 H locs hB fσ_1 pσ_1 hS => ?_)
  refine lv_aload_n hx hb dX7_read_4 rfl (lv_at hl 0 rfl) ?_
  refine lv_iconst (v := 0) hx hb dX7_read_5 (by decide) ?_
  refine t_pi hx hb hts hown hK hLA hB hS mh0 th0 fi_7_4 rfl rfl rfl (by decide) (by decide) (Or.inl (by decide)) mw_2_186 dX7_read_6 (fun H locs σ_4 eσ_4 hB hS => ?_)
  have k_5 : σ_4 h0 4 = 0 := by rw [eσ_4]; exact up2_same _ _ _ _
  refine lv_aload_n hx hb dX7_read_9 rfl (lv_at hl 0 rfl) ?_
  refine lv_iconst (v := 0) hx hb dX7_read_10 (by decide) ?_
  refine t_pi hx hb hts hown hK hLA hB hS mh0 th0 fi_7_5 rfl rfl rfl (by decide) (by decide) (Or.inl (by decide)) mw_2_187 dX7_read_11 (fun H locs σ_6 eσ_6 hB hS => ?_)
  have k_7 : σ_6 h0 5 = 0 := by rw [eσ_6]; exact up2_same _ _ _ _
  refine lv_aload_n hx hb dX7_read_14 rfl (lv_at hl 0 rfl) ?_
  refine lv_iconst (v := 0) hx hb dX7_read_15 (by decide) ?_
  refine t_pi hx hb hts hown hK hLA hB hS mh0 th0 fi_7_6 rfl rfl rfl (i_lo _) (i_hi _) (Or.inl (by decide)) mw_2_188 dX7_read_16 (fun H locs σ_8 eσ_8 hB hS => ?_)
  have k_9 : σ_8 h0 6 = 0 := by rw [eσ_8]; exact up2_same _ _ _ _
  refine lv_aload_n hx hb dX7_read_19 rfl (lv_at hl 0 rfl) ?_
  refine lv_iconst (v := 0) hx hb dX7_read_20 (by decide) ?_
  refine t_pi hx hb hts hown hK hLA hB hS mh0 th0 fi_7_7 rfl rfl rfl (i_lo _) (i_hi _) (Or.inl (by decide)) mw_2_189 dX7_read_21 (fun H locs σ_10 eσ_10 hB hS => ?_)
  have k_11 : σ_10 h0 7 = 0 := by rw [eσ_10]; exact up2_same _ _ _ _
  refine lv_iconst (v := 1) hx hb dX7_read_24 (by decide) ?_
  refine lv_istore_n (lv' := [(2, .int 1), (0, .ref h0), (1, .ref h1)]) hx hb dX7_read_25 rfl hl (by decide) rfl (fun ls hl => ?_)
  refine lv_iconst (v := 0) hx hb dX7_read_26 (by decide) ?_
  refine lv_istore_n (lv' := [(3, .int 0), (2, .int 1), (0, .ref h0), (1, .ref h1)]) hx hb dX7_read_27 rfl hl (by decide) rfl (fun ls hl => ?_)
  refine w_loop (α := Int32 × Int32 × Sg × Lg) (fun (i_12, i_13, σ_14, ρ_15) H locs ls => 0 ≤ i_12.toInt ∧ i_12.toInt ≤ 1 ∧ 0 ≤ i_13.toInt ∧ i_13.toInt ≤ 13 ∧ TS D cA L T r ry [(7, 4), (7, 5), (7, 6), (7, 7), (9, 5), (9, 6), (41, 1000), (42, 1000), (43, 1000), (44, 1000), (52, 1000), (53, 1000), (54, 1000)] σ σ_14 ρ_15 H ∧ va_S (dm L s.heap.size) s.heap H locs ∧ lv_has ls 4 [(3, .int i_13), (2, .int i_12), (0, .ref h0), (1, .ref h1)]) (fun (i_12, i_13, σ_14, ρ_15) => (13 - i_13.toInt).toNat) ?_ ⟨1, 0, σ_10, ρ_2⟩ ⟨(by decide), (by decide), (by decide), (by decide), hB, hS, lv_sub hl [0, 1, 2, 3] rfl⟩
  rintro ⟨i_12, i_13, σ_14, ρ_15⟩ H locs ls ⟨li_12, ui_12, li_13, ui_13, hB, hS, hl⟩ ih_16
  refine lv_iload_n hx hb dX7_read_28 rfl (lv_at hl 0 rfl) ?_
  refine lv_bipush (v := 12) hx hb dX7_read_29 (by decide) ?_
  refine lv_icmp_gt (tgt := 193) hx hb dX7_read_31 (by decide) (fun c_17 => ?_) (fun c_17 => ?_)
  · skip
    have uc_17 := i_gt (n := 12) (by decide) c_17
    refine lv_aload_n hx hb dX7_read_193 rfl (lv_at hl 3 rfl) ?_
    refine t_gi hx hb hts hown hK hB mh1 th1 fi_9_6 rfl mw_1_43 dX7_read_194 (fun x_18 ex_18 lx_18 ux_18 => ?_)
    have cx_18 := congrArg Int32.toInt ex_18
    exact W.iret (v := x_18) hx hb hr (fun t ht hW => ⟨⟨x_18, (σ_14, ρ_15), rfl, ⟨hB.2.1, hB.2.2, trivial⟩, (show TP D cA L T r σ_14 ρ_15 t.heap from by rw [ht]; exact hB.1)⟩, hS.F ht⟩) hS.2.2 dX7_read_197
  · skip
    have uc_17 := i_ngt (n := 12) (by decide) c_17
    refine lv_iload_n hx hb dX7_read_34 rfl (lv_at hl 1 rfl) ?_
    refine lv_if_eq (tgt := 193) hx hb dX7_read_35 (by decide) (fun c_19 => ?_) (fun c_19 => ?_)
    · skip
      have uc_19 := i_eq (n := 0) (by decide) c_19
      refine lv_aload_n hx hb dX7_read_193 rfl (lv_at hl 3 rfl) ?_
      refine t_gi hx hb hts hown hK hB mh1 th1 fi_9_6 rfl mw_1_43 dX7_read_194 (fun x_20 ex_20 lx_20 ux_20 => ?_)
      have cx_20 := congrArg Int32.toInt ex_20
      exact W.iret (v := x_20) hx hb hr (fun t ht hW => ⟨⟨x_20, (σ_14, ρ_15), rfl, ⟨hB.2.1, hB.2.2, trivial⟩, (show TP D cA L T r σ_14 ρ_15 t.heap from by rw [ht]; exact hB.1)⟩, hS.F ht⟩) hS.2.2 dX7_read_197
    · skip
      have uc_19 := i_ne (n := 0) (by decide) c_19
      refine lv_aload_n hx hb dX7_read_38 rfl (lv_at hl 2 rfl) ?_
      refine lv_aload_n hx hb dX7_read_39 rfl (lv_at hl 3 rfl) ?_
      refine t_ci (va_runV (As := [.ref h1]) (rest := []) ⟨hx, hb, hml, hown, hts⟩ (cy_X7_beginsClause l D cA L T r hG hLA.1 σ_14 ρ_15 hB.2.1 _ h0 mh0 th0 h1 mh1 th1) (cV hts mv_X7_beginsClause mw_4_24 rfl rfl ⟨Nat.le_of_ble_eq_true rfl, Nat.le_of_ble_eq_true rfl⟩) (pV hB.1 hK hN mh0 th0 (show shp cA 7 _ _ _ = .inr (7, Fs7 _ _ _) from rfl) rfl) rfl rfl hl.1 rfl (lv_room (Nat.le_of_ble_eq_true rfl)) dX7_read_40 ⟨Nat.le_of_ble_eq_true rfl, Nat.le_of_ble_eq_true rfl⟩) hLA hA hB hS (by decide) (fun x_23 σ_21 ρ_22 H locs hB fσ_21 pσ_21 hS => ?_)
      obtain ⟨g_24, g_25⟩ := pσ_21
      have w_26 : 0 ≤ (σ_21 h0 4).toInt ∧ (σ_21 h0 4).toInt ≤ 12 := by have z := hB.2.1 h0 mh0 4; rw [th0] at z; exact z
      obtain ⟨lx_23, ux_23⟩ := g_24
      refine lv_if_eq (tgt := 193) hx hb dX7_read_43 (by decide) (fun c_27 => ?_) (fun c_27 => ?_)
      · skip
        have uc_27 := i_eq (n := 0) (by decide) c_27
        refine lv_aload_n hx hb dX7_read_193 rfl (lv_at hl 3 rfl) ?_
        refine t_gi hx hb hts hown hK hB mh1 th1 fi_9_6 rfl mw_1_43 dX7_read_194 (fun x_28 ex_28 lx_28 ux_28 => ?_)
        have cx_28 := congrArg Int32.toInt ex_28
        exact W.iret (v := x_28) hx hb hr (fun t ht hW => ⟨⟨x_28, (σ_21, ρ_22), rfl, ⟨hB.2.1, hB.2.2, trivial⟩, (show TP D cA L T r σ_21 ρ_22 t.heap from by rw [ht]; exact hB.1)⟩, hS.F ht⟩) hS.2.2 dX7_read_197
      · skip
        have uc_27 := i_ne (n := 0) (by decide) c_27
        refine lv_aload_n hx hb dX7_read_46 rfl (lv_at hl 2 rfl) ?_
        refine lv_aload_n hx hb dX7_read_47 rfl (lv_at hl 3 rfl) ?_
        refine t_ci (va_runV (As := [.ref h1]) (rest := []) ⟨hx, hb, hml, hown, hts⟩ (cy_X7_sum l D cA L T r hG hLA.1 σ_21 ρ_22 hB.2.1 _ h0 mh0 th0 h1 mh1 th1) (cV hts mv_X7_sum mw_4_33 rfl rfl ⟨Nat.le_of_ble_eq_true rfl, Nat.le_of_ble_eq_true rfl⟩) (pV hB.1 hK hN mh0 th0 (show shp cA 7 _ _ _ = .inr (7, Fs7 _ _ _) from rfl) rfl) rfl rfl hl.1 rfl (lv_room (Nat.le_of_ble_eq_true rfl)) dX7_read_48 ⟨Nat.le_of_ble_eq_true rfl, Nat.le_of_ble_eq_true rfl⟩) hLA hA hB hS (by decide) (fun x_31 σ_29 ρ_30 H locs hB fσ_29 pσ_29 hS => ?_)
        obtain ⟨lx_31, ux_31⟩ := pσ_29
        refine lv_if_eq (tgt := 193) hx hb dX7_read_51 (by decide) (fun c_32 => ?_) (fun c_32 => ?_)
        · skip
          have uc_32 := i_eq (n := 0) (by decide) c_32
          refine lv_aload_n hx hb dX7_read_193 rfl (lv_at hl 3 rfl) ?_
          refine t_gi hx hb hts hown hK hB mh1 th1 fi_9_6 rfl mw_1_43 dX7_read_194 (fun x_33 ex_33 lx_33 ux_33 => ?_)
          have cx_33 := congrArg Int32.toInt ex_33
          exact W.iret (v := x_33) hx hb hr (fun t ht hW => ⟨⟨x_33, (σ_29, ρ_30), rfl, ⟨hB.2.1, hB.2.2, trivial⟩, (show TP D cA L T r σ_29 ρ_30 t.heap from by rw [ht]; exact hB.1)⟩, hS.F ht⟩) hS.2.2 dX7_read_197
        · skip
          have uc_32 := i_ne (n := 0) (by decide) c_32
          refine lv_aload_n hx hb dX7_read_54 rfl (lv_at hl 2 rfl) ?_
          refine t_gr hx hb hts hown hK hG hB mh0 th0 fq_7_2 rfl mw_2_184 dX7_read_55 (fun b_34 hb_34 mb_34 tb_34 => ?_)
          refine lv_aload_n hx hb dX7_read_58 rfl (lv_at hl 2 rfl) ?_
          have k_35 : σ_29 h0 4 = (σ_21 h0 4) := (FR.at fσ_29 th0 (by decide)).trans rfl
          refine t_gv hx hb hts hown hK hB mh0 th0 fi_7_4 k_35 mw_2_186 dX7_read_59 ?_
          refine lv_aload_n hx hb dX7_read_62 rfl (lv_at hl 2 rfl) ?_
          refine t_gi hx hb hts hown hK hB mh0 th0 fi_7_5 rfl mw_2_187 dX7_read_63 (fun x_36 ex_36 lx_36 ux_36 => ?_)
          have cx_36 := congrArg Int32.toInt ex_36
          refine t_si hx hb hK hLA hB hS mb_34 tb_34 ai_43 (i_in (by omega) (by omega)) (by show 0 ≤ _; (first | omega | (subst_vars; omega))) (by show _ ≤ 401; (first | omega | (subst_vars; omega))) (Or.inr (by decide)) dX7_read_66 (fun H locs σ_37 eσ_37 hB hS => ?_)
          have k_38 : σ_37 b_34 (σ_21 h0 4).toNatClampNeg = x_36 := by rw [eσ_37]; exact up2_same _ _ _ _
          refine lv_aload_n hx hb dX7_read_67 rfl (lv_at hl 3 rfl) ?_
          refine lv_aload_n hx hb dX7_read_68 rfl (lv_at hl 2 rfl) ?_
          refine t_gi hx hb hts hown hK hB mh0 th0 fi_7_6 rfl mw_2_188 dX7_read_69 (fun x_39 ex_39 lx_39 ux_39 => ?_)
          have cx_39 := congrArg Int32.toInt ex_39
          refine lv_bipush (v := 7) hx hb dX7_read_72 (by decide) ?_
          refine t_ci (va_runV (As := [.int x_39, .int 7]) (rest := []) ⟨hx, hb, hml, hown, hts⟩ (cy_X9_isWord l D cA L T r hG hLA.1 σ_37 ρ_30 hB.2.1 _ h1 mh1 th1 x_39 7) (cV hts mv_X9_isWord mw_4_28 rfl rfl ⟨Nat.le_of_ble_eq_true rfl, Nat.le_of_ble_eq_true rfl⟩) (pV hB.1 hK hN mh1 th1 (show shp cA 9 _ _ _ = .inr (9, Fs9 _ _ _) from rfl) rfl) rfl rfl hl.1 rfl (lv_room (Nat.le_of_ble_eq_true rfl)) dX7_read_74 ⟨Nat.le_of_ble_eq_true rfl, Nat.le_of_ble_eq_true rfl⟩) hLA hA hB hS (by decide) (fun x_42 σ_40 ρ_41 H locs hB fσ_40 pσ_40 hS => ?_)
          have qσ_40 := FR.nil fσ_40
          subst qσ_40
          obtain ⟨lx_42, ux_42⟩ := pσ_40
          refine lv_if_eq (tgt := 104) hx hb dX7_read_77 (by decide) (fun c_43 => ?_) (fun c_43 => ?_)
          · skip
            have uc_43 := i_eq (n := 0) (by decide) c_43
            refine lv_aload_n hx hb dX7_read_104 rfl (lv_at hl 2 rfl) ?_
            refine t_gr hx hb hts hown hK hG hB mh0 th0 fq_7_3 rfl mw_2_185 dX7_read_105 (fun b_44 hb_44 mb_44 tb_44 => ?_)
            refine lv_aload_n hx hb dX7_read_108 rfl (lv_at hl 2 rfl) ?_
            have k_45 : σ_37 h0 4 = (σ_21 h0 4) := by rw [eσ_37, up2_nea _ _ (tg_ne th0 tb_34 (by decide))]; exact k_35
            refine t_gv hx hb hts hown hK hB mh0 th0 fi_7_4 k_45 mw_2_186 dX7_read_109 ?_
            refine lv_aload_n hx hb dX7_read_112 rfl (lv_at hl 2 rfl) ?_
            have k_46 : σ_37 h0 5 = x_36 := by rw [eσ_37, up2_nea _ _ (tg_ne th0 tb_34 (by decide))]; exact ex_36.symm
            refine t_gv hx hb hts hown hK hB mh0 th0 fi_7_5 k_46 mw_2_187 dX7_read_113 ?_
            refine t_si hx hb hK hLA hB hS mb_44 tb_44 ai_44 (i_in (by omega) (by omega)) (by show 0 ≤ _; (first | omega | (subst_vars; omega))) (by show _ ≤ 401; (first | omega | (subst_vars; omega))) (Or.inr (by decide)) dX7_read_116 (fun H locs σ_47 eσ_47 hB hS => ?_)
            have k_48 : σ_47 b_44 (σ_21 h0 4).toNatClampNeg = x_36 := by rw [eσ_47]; exact up2_same _ _ _ _
            refine lv_aload_n hx hb dX7_read_117 rfl (lv_at hl 2 rfl) ?_
            refine lv_dup hx hb dX7_read_118 rfl ?_
            have k_49 : σ_47 h0 4 = (σ_21 h0 4) := by rw [eσ_47, up2_nea _ _ (tg_ne th0 tb_44 (by decide))]; exact k_45
            refine t_gv hx hb hts hown hK hB mh0 th0 fi_7_4 k_49 mw_2_186 dX7_read_119 ?_
            refine lv_iconst (v := 1) hx hb dX7_read_122 (by decide) ?_
            refine lv_iadd hx hb dX7_read_123 ?_
            refine lv_topi (fun x_50 ex_50 => ?_)
            have vx_50 := b_add (rfl : (σ_21 h0 4).toInt = _) (by decide : (1 : Int32).toInt = 1) ex_50 (by omega) (by omega)
            refine t_pi hx hb hts hown hK hLA hB hS mh0 th0 fi_7_4 rfl rfl rfl (by first | omega | (subst_vars; omega)) (by first | omega | (subst_vars; omega)) (Or.inl (by decide)) mw_2_186 dX7_read_124 (fun H locs σ_51 eσ_51 hB hS => ?_)
            have k_52 : σ_51 h0 4 = x_50 := by rw [eσ_51]; exact up2_same _ _ _ _
            refine lv_aload_n hx hb dX7_read_127 rfl (lv_at hl 3 rfl) ?_
            refine lv_aload_n hx hb dX7_read_128 rfl (lv_at hl 2 rfl) ?_
            have k_53 : σ_47 h0 6 = x_39 := by rw [eσ_47, up2_nea _ _ (tg_ne th0 tb_44 (by decide))]; exact ex_39.symm
            have k_54 : σ_51 h0 6 = x_39 := by rw [eσ_51, up2_nej _ _ (by decide)]; exact k_53
            refine t_gv hx hb hts hown hK hB mh0 th0 fi_7_6 k_54 mw_2_188 dX7_read_129 ?_
            refine t_ci (va_runV (As := [.int x_39]) (rest := []) ⟨hx, hb, hml, hown, hts⟩ (cy_X9_kindAt l D cA L T r hG hLA.1 σ_51 ρ_41 hB.2.1 _ h1 mh1 th1 x_39) (cV hts mv_X9_kindAt mw_4_41 rfl rfl ⟨Nat.le_of_ble_eq_true rfl, Nat.le_of_ble_eq_true rfl⟩) (pV hB.1 hK hN mh1 th1 (show shp cA 9 _ _ _ = .inr (9, Fs9 _ _ _) from rfl) rfl) rfl rfl hl.1 rfl (lv_room (Nat.le_of_ble_eq_true rfl)) dX7_read_132 ⟨Nat.le_of_ble_eq_true rfl, Nat.le_of_ble_eq_true rfl⟩) hLA hA hB hS (by decide) (fun x_57 σ_55 ρ_56 H locs hB fσ_55 pσ_55 hS => ?_)
            have qσ_55 := FR.nil fσ_55
            subst qσ_55
            obtain ⟨lx_57, ux_57⟩ := pσ_55
            refine lv_bipush (v := 59) hx hb dX7_read_135 (by decide) ?_
            refine lv_icmp_ne (tgt := 144) hx hb dX7_read_137 (by decide) (fun c_58 => ?_) (fun c_58 => ?_)
            · skip
              have uc_58 := i_ne (n := 59) (by decide) c_58
              refine lv_iconst (v := 0) hx hb dX7_read_144 (by decide) ?_
              refine lv_istore_n (lv' := [(2, .int 0), (3, .int i_13), (0, .ref h0), (1, .ref h1)]) hx hb dX7_read_145 rfl hl (by decide) rfl (fun ls hl => ?_)
              refine lv_iload_n hx hb dX7_read_146 rfl (lv_at hl 0 rfl) ?_
              refine lv_if_eq (tgt := 163) hx hb dX7_read_147 (by decide) (fun _ => ?_) (fun c9 => absurd (by decide) c9)
              refine lv_aload_n hx hb dX7_read_163 rfl (lv_at hl 3 rfl) ?_
              refine lv_aload_n hx hb dX7_read_164 rfl (lv_at hl 2 rfl) ?_
              refine t_gv hx hb hts hown hK hB mh0 th0 fi_7_6 k_54 mw_2_188 dX7_read_165 ?_
              refine t_ci (va_runV (As := [.int x_39]) (rest := []) ⟨hx, hb, hml, hown, hts⟩ (cy_X9_kindAt l D cA L T r hG hLA.1 σ_51 ρ_56 hB.2.1 _ h1 mh1 th1 x_39) (cV hts mv_X9_kindAt mw_4_41 rfl rfl ⟨Nat.le_of_ble_eq_true rfl, Nat.le_of_ble_eq_true rfl⟩) (pV hB.1 hK hN mh1 th1 (show shp cA 9 _ _ _ = .inr (9, Fs9 _ _ _) from rfl) rfl) rfl rfl hl.1 rfl (lv_room (Nat.le_of_ble_eq_true rfl)) dX7_read_168 ⟨Nat.le_of_ble_eq_true rfl, Nat.le_of_ble_eq_true rfl⟩) hLA hA hB hS (by decide) (fun x_61 σ_59 ρ_60 H locs hB fσ_59 pσ_59 hS => ?_)
              have qσ_59 := FR.nil fσ_59
              subst qσ_59
              obtain ⟨lx_61, ux_61⟩ := pσ_59
              refine lv_sipush (v := 133) hx hb dX7_read_171 (by decide) ?_
              refine lv_icmp_eq (tgt := 187) hx hb dX7_read_174 (by decide) (fun c_62 => ?_) (fun c_62 => ?_)
              · skip
                have uc_62 := i_eq (n := 133) (by decide) c_62
                obtain ⟨x_63, ex_63⟩ : ∃ y : Int32, y = i_13 + 1 := ⟨_, rfl⟩
                have vx_63 := b_add (rfl : i_13.toInt = _) (by decide : (1 : Int32).toInt = 1) ex_63 (by omega) (by omega)
                refine lv_iinc (v := x_63) (lv' := [(3, .int x_63), (2, .int 0), (0, .ref h0), (1, .ref h1)]) hx hb dX7_read_187 hl (k := 1) rfl (by rw [ex_63]; rfl) (by decide) rfl (fun ls hl => ?_)
                refine lv_goto (tgt := 28) hx hb dX7_read_190 (by decide) ?_
                exact ih_16 ⟨0, x_63, σ_51, ρ_60⟩ _ _ _ ⟨(by decide), (by decide), (by omega), (by omega), hB, hS, lv_sub hl [0, 1, 2, 3] rfl⟩ (by show (13 - x_63.toInt).toNat < (13 - i_13.toInt).toNat; omega)
              · skip
                have uc_62 := i_ne (n := 133) (by decide) c_62
                refine lv_aload_n hx hb dX7_read_177 rfl (lv_at hl 3 rfl) ?_
                refine lv_aload_n hx hb dX7_read_178 rfl (lv_at hl 2 rfl) ?_
                refine t_gv hx hb hts hown hK hB mh0 th0 fi_7_6 k_54 mw_2_188 dX7_read_179 ?_
                refine lv_iconst (v := 0) hx hb dX7_read_182 (by decide) ?_
                refine t_ci (va_runV (As := [.int x_39, .int 0]) (rest := []) ⟨hx, hb, hml, hown, hts⟩ (cy_X9_wrong l D cA L T r hG hLA.1 σ_51 ρ_60 hB.2.1 _ h1 mh1 th1 x_39 0 (by first | omega | decide) (by first | omega | decide)) (cV hts mv_X9_wrong mw_4_32 rfl rfl ⟨Nat.le_of_ble_eq_true rfl, Nat.le_of_ble_eq_true rfl⟩) (pV hB.1 hK hN mh1 th1 (show shp cA 9 _ _ _ = .inr (9, Fs9 _ _ _) from rfl) rfl) rfl rfl hl.1 rfl (lv_room (Nat.le_of_ble_eq_true rfl)) dX7_read_183 ⟨Nat.le_of_ble_eq_true rfl, Nat.le_of_ble_eq_true rfl⟩) hLA hA hB hS (by decide) (fun x_66 σ_64 ρ_65 H locs hB fσ_64 pσ_64 hS => ?_)
                obtain ⟨g_67, g_68⟩ := pσ_64
                subst g_67
                refine lv_pop hx hb dX7_read_186 rfl ?_
                obtain ⟨x_69, ex_69⟩ : ∃ y : Int32, y = i_13 + 1 := ⟨_, rfl⟩
                have vx_69 := b_add (rfl : i_13.toInt = _) (by decide : (1 : Int32).toInt = 1) ex_69 (by omega) (by omega)
                refine lv_iinc (v := x_69) (lv' := [(3, .int x_69), (2, .int 0), (0, .ref h0), (1, .ref h1)]) hx hb dX7_read_187 hl (k := 1) rfl (by rw [ex_69]; rfl) (by decide) rfl (fun ls hl => ?_)
                refine lv_goto (tgt := 28) hx hb dX7_read_190 (by decide) ?_
                exact ih_16 ⟨0, x_69, σ_64, ρ_65⟩ _ _ _ ⟨(by decide), (by decide), (by omega), (by omega), hB, hS, lv_sub hl [0, 1, 2, 3] rfl⟩ (by show (13 - x_69.toInt).toNat < (13 - i_13.toInt).toNat; omega)
            · skip
              have uc_58 := i_eq (n := 59) (by decide) c_58
              refine lv_iconst (v := 1) hx hb dX7_read_140 (by decide) ?_
              refine lv_goto (tgt := 145) hx hb dX7_read_141 (by decide) ?_
              refine lv_istore_n (lv' := [(2, .int 1), (3, .int i_13), (0, .ref h0), (1, .ref h1)]) hx hb dX7_read_145 rfl hl (by decide) rfl (fun ls hl => ?_)
              refine lv_iload_n hx hb dX7_read_146 rfl (lv_at hl 0 rfl) ?_
              refine lv_if_eq (tgt := 163) hx hb dX7_read_147 (by decide) (fun c9 => absurd c9 (by decide)) (fun _ => ?_)
              refine lv_aload_n hx hb dX7_read_150 rfl (lv_at hl 2 rfl) ?_
              refine lv_dup hx hb dX7_read_151 rfl ?_
              refine t_gv hx hb hts hown hK hB mh0 th0 fi_7_6 k_54 mw_2_188 dX7_read_152 ?_
              refine lv_iconst (v := 1) hx hb dX7_read_155 (by decide) ?_
              refine lv_iadd hx hb dX7_read_156 ?_
              refine lv_topi (fun x_70 ex_70 => ?_)
              try have vx_70 := b_add (rfl : x_39.toInt = _) (by decide : (1 : Int32).toInt = 1) ex_70 (by omega) (by omega)
              refine t_pi hx hb hts hown hK hLA hB hS mh0 th0 fi_7_6 rfl rfl rfl (i_lo _) (i_hi _) (Or.inl (by decide)) mw_2_188 dX7_read_157 (fun H locs σ_71 eσ_71 hB hS => ?_)
              have k_72 : σ_71 h0 6 = x_70 := by rw [eσ_71]; exact up2_same _ _ _ _
              refine lv_goto (tgt := 187) hx hb dX7_read_160 (by decide) ?_
              obtain ⟨x_73, ex_73⟩ : ∃ y : Int32, y = i_13 + 1 := ⟨_, rfl⟩
              have vx_73 := b_add (rfl : i_13.toInt = _) (by decide : (1 : Int32).toInt = 1) ex_73 (by omega) (by omega)
              refine lv_iinc (v := x_73) (lv' := [(3, .int x_73), (2, .int 1), (0, .ref h0), (1, .ref h1)]) hx hb dX7_read_187 hl (k := 1) rfl (by rw [ex_73]; rfl) (by decide) rfl (fun ls hl => ?_)
              refine lv_goto (tgt := 28) hx hb dX7_read_190 (by decide) ?_
              exact ih_16 ⟨1, x_73, σ_71, ρ_56⟩ _ _ _ ⟨(by decide), (by decide), (by omega), (by omega), hB, hS, lv_sub hl [0, 1, 2, 3] rfl⟩ (by show (13 - x_73.toInt).toNat < (13 - i_13.toInt).toNat; omega)
          · skip
            have uc_43 := i_ne (n := 0) (by decide) c_43
            refine lv_aload_n hx hb dX7_read_80 rfl (lv_at hl 2 rfl) ?_
            refine lv_dup hx hb dX7_read_81 rfl ?_
            refine t_gv hx hb hts hown hK hB mh0 th0 fi_7_6 ex_39.symm mw_2_188 dX7_read_82 ?_
            refine lv_iconst (v := 1) hx hb dX7_read_85 (by decide) ?_
            refine lv_iadd hx hb dX7_read_86 ?_
            refine lv_topi (fun x_74 ex_74 => ?_)
            try have vx_74 := b_add (rfl : x_39.toInt = _) (by decide : (1 : Int32).toInt = 1) ex_74 (by omega) (by omega)
            refine t_pi hx hb hts hown hK hLA hB hS mh0 th0 fi_7_6 rfl rfl rfl (i_lo _) (i_hi _) (Or.inl (by decide)) mw_2_188 dX7_read_87 (fun H locs σ_75 eσ_75 hB hS => ?_)
            have k_76 : σ_75 h0 6 = x_74 := by rw [eσ_75]; exact up2_same _ _ _ _
            refine lv_aload_n hx hb dX7_read_90 rfl (lv_at hl 2 rfl) ?_
            refine lv_aload_n hx hb dX7_read_91 rfl (lv_at hl 3 rfl) ?_
            refine lv_iconst (v := 0) hx hb dX7_read_92 (by decide) ?_
            refine t_ci (va_runV (As := [.ref h1, .int 0]) (rest := []) ⟨hx, hb, hml, hown, hts⟩ (cy_X7_test_0 l D cA L T r hG hLA.1 σ_75 ρ_41 hB.2.1 _ h0 mh0 th0 h1 mh1 th1 0 (by first | omega | decide) (by first | omega | decide)) (cV hts mv_X7_test mw_4_50 rfl rfl ⟨Nat.le_of_ble_eq_true rfl, Nat.le_of_ble_eq_true rfl⟩) (pV hB.1 hK hN mh0 th0 (show shp cA 7 _ _ _ = .inr (7, Fs7 _ _ _) from rfl) rfl) rfl rfl hl.1 rfl (lv_room (Nat.le_of_ble_eq_true rfl)) dX7_read_93 ⟨Nat.le_of_ble_eq_true rfl, Nat.le_of_ble_eq_true rfl⟩) hLA hA hB hS (by decide) (fun x_79 σ_77 ρ_78 H locs hB fσ_77 pσ_77 hS => ?_)
            obtain ⟨lx_79, ux_79⟩ := pσ_77
            refine lv_if_ne (tgt := 104) hx hb dX7_read_96 (by decide) (fun c_80 => ?_) (fun c_80 => ?_)
            · skip
              have uc_80 := i_ne (n := 0) (by decide) c_80
              refine lv_aload_n hx hb dX7_read_104 rfl (lv_at hl 2 rfl) ?_
              refine t_gr hx hb hts hown hK hG hB mh0 th0 fq_7_3 rfl mw_2_185 dX7_read_105 (fun b_81 hb_81 mb_81 tb_81 => ?_)
              refine lv_aload_n hx hb dX7_read_108 rfl (lv_at hl 2 rfl) ?_
              have k_82 : σ_37 h0 4 = (σ_21 h0 4) := by rw [eσ_37, up2_nea _ _ (tg_ne th0 tb_34 (by decide))]; exact k_35
              have k_83 : σ_75 h0 4 = (σ_21 h0 4) := by rw [eσ_75, up2_nej _ _ (by decide)]; exact k_82
              have k_84 : σ_77 h0 4 = (σ_21 h0 4) := (FR.at fσ_77 th0 (by decide)).trans k_83
              refine t_gv hx hb hts hown hK hB mh0 th0 fi_7_4 k_84 mw_2_186 dX7_read_109 ?_
              refine lv_aload_n hx hb dX7_read_112 rfl (lv_at hl 2 rfl) ?_
              refine t_gi hx hb hts hown hK hB mh0 th0 fi_7_5 rfl mw_2_187 dX7_read_113 (fun x_85 ex_85 lx_85 ux_85 => ?_)
              have cx_85 := congrArg Int32.toInt ex_85
              refine t_si hx hb hK hLA hB hS mb_81 tb_81 ai_44 (i_in (by omega) (by omega)) (by show 0 ≤ _; (first | omega | (subst_vars; omega))) (by show _ ≤ 401; (first | omega | (subst_vars; omega))) (Or.inr (by decide)) dX7_read_116 (fun H locs σ_86 eσ_86 hB hS => ?_)
              have k_87 : σ_86 b_81 (σ_21 h0 4).toNatClampNeg = x_85 := by rw [eσ_86]; exact up2_same _ _ _ _
              refine lv_aload_n hx hb dX7_read_117 rfl (lv_at hl 2 rfl) ?_
              refine lv_dup hx hb dX7_read_118 rfl ?_
              have k_88 : σ_86 h0 4 = (σ_21 h0 4) := by rw [eσ_86, up2_nea _ _ (tg_ne th0 tb_81 (by decide))]; exact k_84
              refine t_gv hx hb hts hown hK hB mh0 th0 fi_7_4 k_88 mw_2_186 dX7_read_119 ?_
              refine lv_iconst (v := 1) hx hb dX7_read_122 (by decide) ?_
              refine lv_iadd hx hb dX7_read_123 ?_
              refine lv_topi (fun x_89 ex_89 => ?_)
              have vx_89 := b_add (rfl : (σ_21 h0 4).toInt = _) (by decide : (1 : Int32).toInt = 1) ex_89 (by omega) (by omega)
              refine t_pi hx hb hts hown hK hLA hB hS mh0 th0 fi_7_4 rfl rfl rfl (by first | omega | (subst_vars; omega)) (by first | omega | (subst_vars; omega)) (Or.inl (by decide)) mw_2_186 dX7_read_124 (fun H locs σ_90 eσ_90 hB hS => ?_)
              have k_91 : σ_90 h0 4 = x_89 := by rw [eσ_90]; exact up2_same _ _ _ _
              refine lv_aload_n hx hb dX7_read_127 rfl (lv_at hl 3 rfl) ?_
              refine lv_aload_n hx hb dX7_read_128 rfl (lv_at hl 2 rfl) ?_
              refine t_gi hx hb hts hown hK hB mh0 th0 fi_7_6 rfl mw_2_188 dX7_read_129 (fun x_92 ex_92 lx_92 ux_92 => ?_)
              have cx_92 := congrArg Int32.toInt ex_92
              refine t_ci (va_runV (As := [.int x_92]) (rest := []) ⟨hx, hb, hml, hown, hts⟩ (cy_X9_kindAt l D cA L T r hG hLA.1 σ_90 ρ_78 hB.2.1 _ h1 mh1 th1 x_92) (cV hts mv_X9_kindAt mw_4_41 rfl rfl ⟨Nat.le_of_ble_eq_true rfl, Nat.le_of_ble_eq_true rfl⟩) (pV hB.1 hK hN mh1 th1 (show shp cA 9 _ _ _ = .inr (9, Fs9 _ _ _) from rfl) rfl) rfl rfl hl.1 rfl (lv_room (Nat.le_of_ble_eq_true rfl)) dX7_read_132 ⟨Nat.le_of_ble_eq_true rfl, Nat.le_of_ble_eq_true rfl⟩) hLA hA hB hS (by decide) (fun x_95 σ_93 ρ_94 H locs hB fσ_93 pσ_93 hS => ?_)
              have qσ_93 := FR.nil fσ_93
              subst qσ_93
              obtain ⟨lx_95, ux_95⟩ := pσ_93
              refine lv_bipush (v := 59) hx hb dX7_read_135 (by decide) ?_
              refine lv_icmp_ne (tgt := 144) hx hb dX7_read_137 (by decide) (fun c_96 => ?_) (fun c_96 => ?_)
              · skip
                have uc_96 := i_ne (n := 59) (by decide) c_96
                refine lv_iconst (v := 0) hx hb dX7_read_144 (by decide) ?_
                refine lv_istore_n (lv' := [(2, .int 0), (3, .int i_13), (0, .ref h0), (1, .ref h1)]) hx hb dX7_read_145 rfl hl (by decide) rfl (fun ls hl => ?_)
                refine lv_iload_n hx hb dX7_read_146 rfl (lv_at hl 0 rfl) ?_
                refine lv_if_eq (tgt := 163) hx hb dX7_read_147 (by decide) (fun _ => ?_) (fun c9 => absurd (by decide) c9)
                refine lv_aload_n hx hb dX7_read_163 rfl (lv_at hl 3 rfl) ?_
                refine lv_aload_n hx hb dX7_read_164 rfl (lv_at hl 2 rfl) ?_
                refine t_gv hx hb hts hown hK hB mh0 th0 fi_7_6 ex_92.symm mw_2_188 dX7_read_165 ?_
                refine t_ci (va_runV (As := [.int x_92]) (rest := []) ⟨hx, hb, hml, hown, hts⟩ (cy_X9_kindAt l D cA L T r hG hLA.1 σ_90 ρ_94 hB.2.1 _ h1 mh1 th1 x_92) (cV hts mv_X9_kindAt mw_4_41 rfl rfl ⟨Nat.le_of_ble_eq_true rfl, Nat.le_of_ble_eq_true rfl⟩) (pV hB.1 hK hN mh1 th1 (show shp cA 9 _ _ _ = .inr (9, Fs9 _ _ _) from rfl) rfl) rfl rfl hl.1 rfl (lv_room (Nat.le_of_ble_eq_true rfl)) dX7_read_168 ⟨Nat.le_of_ble_eq_true rfl, Nat.le_of_ble_eq_true rfl⟩) hLA hA hB hS (by decide) (fun x_99 σ_97 ρ_98 H locs hB fσ_97 pσ_97 hS => ?_)
                have qσ_97 := FR.nil fσ_97
                subst qσ_97
                obtain ⟨lx_99, ux_99⟩ := pσ_97
                refine lv_sipush (v := 133) hx hb dX7_read_171 (by decide) ?_
                refine lv_icmp_eq (tgt := 187) hx hb dX7_read_174 (by decide) (fun c_100 => ?_) (fun c_100 => ?_)
                · skip
                  have uc_100 := i_eq (n := 133) (by decide) c_100
                  obtain ⟨x_101, ex_101⟩ : ∃ y : Int32, y = i_13 + 1 := ⟨_, rfl⟩
                  have vx_101 := b_add (rfl : i_13.toInt = _) (by decide : (1 : Int32).toInt = 1) ex_101 (by omega) (by omega)
                  refine lv_iinc (v := x_101) (lv' := [(3, .int x_101), (2, .int 0), (0, .ref h0), (1, .ref h1)]) hx hb dX7_read_187 hl (k := 1) rfl (by rw [ex_101]; rfl) (by decide) rfl (fun ls hl => ?_)
                  refine lv_goto (tgt := 28) hx hb dX7_read_190 (by decide) ?_
                  exact ih_16 ⟨0, x_101, σ_90, ρ_98⟩ _ _ _ ⟨(by decide), (by decide), (by omega), (by omega), hB, hS, lv_sub hl [0, 1, 2, 3] rfl⟩ (by show (13 - x_101.toInt).toNat < (13 - i_13.toInt).toNat; omega)
                · skip
                  have uc_100 := i_ne (n := 133) (by decide) c_100
                  refine lv_aload_n hx hb dX7_read_177 rfl (lv_at hl 3 rfl) ?_
                  refine lv_aload_n hx hb dX7_read_178 rfl (lv_at hl 2 rfl) ?_
                  refine t_gv hx hb hts hown hK hB mh0 th0 fi_7_6 ex_92.symm mw_2_188 dX7_read_179 ?_
                  refine lv_iconst (v := 0) hx hb dX7_read_182 (by decide) ?_
                  refine t_ci (va_runV (As := [.int x_92, .int 0]) (rest := []) ⟨hx, hb, hml, hown, hts⟩ (cy_X9_wrong l D cA L T r hG hLA.1 σ_90 ρ_98 hB.2.1 _ h1 mh1 th1 x_92 0 (by first | omega | decide) (by first | omega | decide)) (cV hts mv_X9_wrong mw_4_32 rfl rfl ⟨Nat.le_of_ble_eq_true rfl, Nat.le_of_ble_eq_true rfl⟩) (pV hB.1 hK hN mh1 th1 (show shp cA 9 _ _ _ = .inr (9, Fs9 _ _ _) from rfl) rfl) rfl rfl hl.1 rfl (lv_room (Nat.le_of_ble_eq_true rfl)) dX7_read_183 ⟨Nat.le_of_ble_eq_true rfl, Nat.le_of_ble_eq_true rfl⟩) hLA hA hB hS (by decide) (fun x_104 σ_102 ρ_103 H locs hB fσ_102 pσ_102 hS => ?_)
                  obtain ⟨g_105, g_106⟩ := pσ_102
                  subst g_105
                  refine lv_pop hx hb dX7_read_186 rfl ?_
                  obtain ⟨x_107, ex_107⟩ : ∃ y : Int32, y = i_13 + 1 := ⟨_, rfl⟩
                  have vx_107 := b_add (rfl : i_13.toInt = _) (by decide : (1 : Int32).toInt = 1) ex_107 (by omega) (by omega)
                  refine lv_iinc (v := x_107) (lv' := [(3, .int x_107), (2, .int 0), (0, .ref h0), (1, .ref h1)]) hx hb dX7_read_187 hl (k := 1) rfl (by rw [ex_107]; rfl) (by decide) rfl (fun ls hl => ?_)
                  refine lv_goto (tgt := 28) hx hb dX7_read_190 (by decide) ?_
                  exact ih_16 ⟨0, x_107, σ_102, ρ_103⟩ _ _ _ ⟨(by decide), (by decide), (by omega), (by omega), hB, hS, lv_sub hl [0, 1, 2, 3] rfl⟩ (by show (13 - x_107.toInt).toNat < (13 - i_13.toInt).toNat; omega)
              · skip
                have uc_96 := i_eq (n := 59) (by decide) c_96
                refine lv_iconst (v := 1) hx hb dX7_read_140 (by decide) ?_
                refine lv_goto (tgt := 145) hx hb dX7_read_141 (by decide) ?_
                refine lv_istore_n (lv' := [(2, .int 1), (3, .int i_13), (0, .ref h0), (1, .ref h1)]) hx hb dX7_read_145 rfl hl (by decide) rfl (fun ls hl => ?_)
                refine lv_iload_n hx hb dX7_read_146 rfl (lv_at hl 0 rfl) ?_
                refine lv_if_eq (tgt := 163) hx hb dX7_read_147 (by decide) (fun c9 => absurd c9 (by decide)) (fun _ => ?_)
                refine lv_aload_n hx hb dX7_read_150 rfl (lv_at hl 2 rfl) ?_
                refine lv_dup hx hb dX7_read_151 rfl ?_
                refine t_gv hx hb hts hown hK hB mh0 th0 fi_7_6 ex_92.symm mw_2_188 dX7_read_152 ?_
                refine lv_iconst (v := 1) hx hb dX7_read_155 (by decide) ?_
                refine lv_iadd hx hb dX7_read_156 ?_
                refine lv_topi (fun x_108 ex_108 => ?_)
                try have vx_108 := b_add (rfl : x_92.toInt = _) (by decide : (1 : Int32).toInt = 1) ex_108 (by omega) (by omega)
                refine t_pi hx hb hts hown hK hLA hB hS mh0 th0 fi_7_6 rfl rfl rfl (i_lo _) (i_hi _) (Or.inl (by decide)) mw_2_188 dX7_read_157 (fun H locs σ_109 eσ_109 hB hS => ?_)
                have k_110 : σ_109 h0 6 = x_108 := by rw [eσ_109]; exact up2_same _ _ _ _
                refine lv_goto (tgt := 187) hx hb dX7_read_160 (by decide) ?_
                obtain ⟨x_111, ex_111⟩ : ∃ y : Int32, y = i_13 + 1 := ⟨_, rfl⟩
                have vx_111 := b_add (rfl : i_13.toInt = _) (by decide : (1 : Int32).toInt = 1) ex_111 (by omega) (by omega)
                refine lv_iinc (v := x_111) (lv' := [(3, .int x_111), (2, .int 1), (0, .ref h0), (1, .ref h1)]) hx hb dX7_read_187 hl (k := 1) rfl (by rw [ex_111]; rfl) (by decide) rfl (fun ls hl => ?_)
                refine lv_goto (tgt := 28) hx hb dX7_read_190 (by decide) ?_
                exact ih_16 ⟨1, x_111, σ_109, ρ_94⟩ _ _ _ ⟨(by decide), (by decide), (by omega), (by omega), hB, hS, lv_sub hl [0, 1, 2, 3] rfl⟩ (by show (13 - x_111.toInt).toNat < (13 - i_13.toInt).toNat; omega)
            · skip
              have uc_80 := i_eq (n := 0) (by decide) c_80
              refine lv_aload_n hx hb dX7_read_99 rfl (lv_at hl 3 rfl) ?_
              refine t_gi hx hb hts hown hK hB mh1 th1 fi_9_6 rfl mw_1_43 dX7_read_100 (fun x_112 ex_112 lx_112 ux_112 => ?_)
              have cx_112 := congrArg Int32.toInt ex_112
              exact W.iret (v := x_112) hx hb hr (fun t ht hW => ⟨⟨x_112, (σ_77, ρ_78), rfl, ⟨hB.2.1, hB.2.2, trivial⟩, (show TP D cA L T r σ_77 ρ_78 t.heap from by rw [ht]; exact hB.1)⟩, hS.F ht⟩) hS.2.2 dX7_read_103
theorem mw_2_208 : (.fieldLink RX11 19 "HillBends" "hillReader" "LHillBends$HillReader;" : Cond) ∈ wsA := wsA_t (List.mem_append_right _ (List.mem_append_left _ (List.mem_of_getElem? (l := tables_1_2) (i := 208) rfl))) rfl
theorem mw_3_21 : (.instanceMethod yX4_read : Cond) ∈ wsA := wsA_t (List.mem_append_right _ (List.mem_append_right _ (List.mem_append_left _ (List.mem_of_getElem? (l := tables_1_3) (i := 21) rfl)))) rfl
theorem mw_3_22 : (.selects RX4 yX4_read yX4_read : Cond) ∈ wsA := wsA_t (List.mem_append_right _ (List.mem_append_right _ (List.mem_append_left _ (List.mem_of_getElem? (l := tables_1_3) (i := 22) rfl)))) rfl
theorem mw_3_23 : (.code yX4_read cX4_read 4 (some .int) : Cond) ∈ wsA := wsA_t (List.mem_append_right _ (List.mem_append_right _ (List.mem_append_left _ (List.mem_of_getElem? (l := tables_1_3) (i := 23) rfl)))) rfl
theorem mw_3_20 : (.methodLink RX11 84 yX4_read : Cond) ∈ wsA := wsA_t (List.mem_append_right _ (List.mem_append_right _ (List.mem_append_left _ (List.mem_of_getElem? (l := tables_1_3) (i := 20) rfl)))) rfl
theorem mw_1_214 : (.fieldLink RX11 88 "HillBends$HillReader" "told" "LHillBends$Hill;" : Cond) ∈ wsA := wsA_t (List.mem_append_left _ (List.mem_of_getElem? (l := tables_1_1) (i := 214) rfl)) rfl
theorem mw_3_230 : (.instanceMethod yX10_begin : Cond) ∈ wsA := wsA_t (List.mem_append_right _ (List.mem_append_right _ (List.mem_append_left _ (List.mem_of_getElem? (l := tables_1_3) (i := 230) rfl)))) rfl
theorem mw_3_231 : (.selects RX10 yX10_begin yX10_begin : Cond) ∈ wsA := wsA_t (List.mem_append_right _ (List.mem_append_right _ (List.mem_append_left _ (List.mem_of_getElem? (l := tables_1_3) (i := 231) rfl)))) rfl
theorem mw_3_232 : (.code yX10_begin cX10_begin 3 none : Cond) ∈ wsA := wsA_t (List.mem_append_right _ (List.mem_append_right _ (List.mem_append_left _ (List.mem_of_getElem? (l := tables_1_3) (i := 232) rfl)))) rfl
theorem mw_3_229 : (.methodLink RX11 92 yX10_begin : Cond) ∈ wsA := wsA_t (List.mem_append_right _ (List.mem_append_right _ (List.mem_append_left _ (List.mem_of_getElem? (l := tables_1_3) (i := 229) rfl)))) rfl
theorem dX11_hill_0 : decode cX11_hill 0 = .ok (.aload_n 0, 1) := by decide +kernel
theorem dX11_hill_1 : decode cX11_hill 1 = .ok (.getfield 19, 3) := by decide +kernel
theorem dX11_hill_4 : decode cX11_hill 4 = .ok (.aload_n 0, 1) := by decide +kernel
theorem dX11_hill_5 : decode cX11_hill 5 = .ok (.getfield 10, 3) := by decide +kernel
theorem dX11_hill_8 : decode cX11_hill 8 = .ok (.invokevirtual 84, 3) := by decide +kernel
theorem dX11_hill_11 : decode cX11_hill 11 = .ok (.istore_n 1, 1) := by decide +kernel
theorem dX11_hill_12 : decode cX11_hill 12 = .ok (.iload_n 1, 1) := by decide +kernel
theorem dX11_hill_13 : decode cX11_hill 13 = .ok (.ifCond .eq 8, 3) := by decide +kernel
theorem dX11_hill_21 : decode cX11_hill 21 = .ok (.aload_n 0, 1) := by decide +kernel
theorem dX11_hill_22 : decode cX11_hill 22 = .ok (.getfield 10, 3) := by decide +kernel
theorem dX11_hill_25 : decode cX11_hill 25 = .ok (.iconst 0, 1) := by decide +kernel
theorem dX11_hill_26 : decode cX11_hill 26 = .ok (.putfield 76, 3) := by decide +kernel
theorem dX11_hill_29 : decode cX11_hill 29 = .ok (.aload_n 0, 1) := by decide +kernel
theorem dX11_hill_30 : decode cX11_hill 30 = .ok (.getfield 32, 3) := by decide +kernel
theorem dX11_hill_33 : decode cX11_hill 33 = .ok (.aload_n 0, 1) := by decide +kernel
theorem dX11_hill_34 : decode cX11_hill 34 = .ok (.getfield 19, 3) := by decide +kernel
theorem dX11_hill_37 : decode cX11_hill 37 = .ok (.getfield 88, 3) := by decide +kernel
theorem dX11_hill_40 : decode cX11_hill 40 = .ok (.invokevirtual 92, 3) := by decide +kernel
theorem dX11_hill_43 : decode cX11_hill 43 = .ok (.aload_n 0, 1) := by decide +kernel
theorem dX11_hill_44 : decode cX11_hill 44 = .ok (.getfield 43, 3) := by decide +kernel
theorem dX11_hill_47 : decode cX11_hill 47 = .ok (.invokevirtual 96, 3) := by decide +kernel
theorem dX11_hill_50 : decode cX11_hill 50 = .ok (.aload_n 0, 1) := by decide +kernel
theorem dX11_hill_51 : decode cX11_hill 51 = .ok (.getfield 71, 3) := by decide +kernel
theorem dX11_hill_54 : decode cX11_hill 54 = .ok (.invokevirtual 99, 3) := by decide +kernel
theorem dX11_hill_57 : decode cX11_hill 57 = .ok (.aload_n 0, 1) := by decide +kernel
theorem dX11_hill_58 : decode cX11_hill 58 = .ok (.getfield 32, 3) := by decide +kernel
theorem dX11_hill_61 : decode cX11_hill 61 = .ok (.getfield 102, 3) := by decide +kernel
theorem dX11_hill_64 : decode cX11_hill 64 = .ok (.getfield 105, 3) := by decide +kernel
theorem dX11_hill_67 : decode cX11_hill 67 = .ok (.ireturn, 1) := by decide +kernel
theorem dX11_hill_16 : decode cX11_hill 16 = .ok (.bipush (-2), 2) := by decide +kernel
theorem dX11_hill_18 : decode cX11_hill 18 = .ok (.iload_n 1, 1) := by decide +kernel
theorem dX11_hill_19 : decode cX11_hill 19 = .ok (.isub, 1) := by decide +kernel
theorem dX11_hill_20 : decode cX11_hill 20 = .ok (.ireturn, 1) := by decide +kernel
theorem mv_X4_read : MV RX4 yX4_read cX4_read 4 (some .int) 1 := ⟨mw_3_21, mw_3_22, mw_1_3, mw_3_23, ⟨rfl, by decide, by decide, by decide +kernel⟩⟩
theorem mv_X10_begin : MV RX10 yX10_begin cX10_begin 3 none 1 := ⟨mw_3_230, mw_3_231, mw_1_6, mw_3_232, ⟨rfl, by decide, by decide, by decide +kernel⟩⟩
set_option maxHeartbeats 4000000 in
set_option maxRecDepth 100000 in
theorem cy_X11_hill (l : Launch) (D : va_G) (cA : Nat → ClassId) (L : List Nat) (T : Nat → Nat) (r : Rg) (hG : GR L T r) (hL : L.Nodup) (σ : Sg) (ρ : Lg) (hW : WT L ry T σ) (sz : Nat) (adK adV : Nat → Nat) (h0 : Nat) (mh0 : h0 ∈ L) (th0 : T h0 = 11) : Met l yX11_hill (.code yX11_hill cX11_hill 2 (some .int) :: wsA) ({ frames := 8, cells := 0, slots := 0, locals := 178 }) (PZ adK adV D cA L T r σ ρ sz [.ref h0]) (QI D cA L T r ry [(2, 3), (3, 6), (3, 7), (3, 8), (3, 9), (3, 10), (4, 1), (5, 1), (8, 6), (8, 7), (9, 4), (9, 5), (9, 6), (10, 6), (17, 6), (17, 7), (17, 8), (17, 9), (17, 10), (33, 1000), (34, 1000), (35, 1000), (36, 1000), (37, 1000), (45, 1000), (46, 1000), (47, 1000), (48, 1000), (49, 1000), (50, 1000), (52, 1000), (53, 1000), (54, 1000), (55, 1000), (90, 1000), (91, 1000), (92, 1000), (93, 1000), (94, 1000), (100, 6), (100, 7), (101, 6), (101, 7), (107, 1000), (108, 1000), (109, 1000), (110, 1000), (111, 1000), (112, 1000), (113, 1000), (114, 1000), (115, 1000), (116, 1000), (117, 1000), (118, 1000)] σ sz (fun x σ1 => True)) 0 0 (dm L sz) := by
  refine Met.ofW (cc := cX11_hill) (maxL := 2) (ret := (some .int)) (by decide) rfl ?_
  intro p e s m args below meth c s₁ B hml hv
  obtain ⟨rfl, hsz, hP, hK, hN, hV⟩ := hv
  have hx := B.exec
  have hb := B.bytes
  have hr := B.returns
  have hts : ∀ w ∈ wsA, w.before _ s = true := fun w h => atoms_spec (ws := .code yX11_hill cX11_hill 2 (some .int) :: wsA) B.pre w (List.mem_cons_of_mem _ h)
  have hown : s.vm.findClass RX11 = some m.cls := findClass_of_methodNamed B.named
  subst hsz
  have hLA : LA (dm L s.heap.size) L := ⟨hL, fun a h => Or.inl h⟩
  have hA : ∀ q : Nat, s.heap.size ≤ q → dm L s.heap.size q := fun q h => Or.inr h
  have hS : va_S (dm L s.heap.size) s.heap s.heap [] := va_S.rf
  have hB : TS D cA L T r ry [(2, 3), (3, 6), (3, 7), (3, 8), (3, 9), (3, 10), (4, 1), (5, 1), (8, 6), (8, 7), (9, 4), (9, 5), (9, 6), (10, 6), (17, 6), (17, 7), (17, 8), (17, 9), (17, 10), (33, 1000), (34, 1000), (35, 1000), (36, 1000), (37, 1000), (45, 1000), (46, 1000), (47, 1000), (48, 1000), (49, 1000), (50, 1000), (52, 1000), (53, 1000), (54, 1000), (55, 1000), (90, 1000), (91, 1000), (92, 1000), (93, 1000), (94, 1000), (100, 6), (100, 7), (101, 6), (101, 7), (107, 1000), (108, 1000), (109, 1000), (110, 1000), (111, 1000), (112, 1000), (113, 1000), (114, 1000), (115, 1000), (116, 1000), (117, 1000), (118, 1000)] σ σ ρ s.heap := ⟨hP, hW, FR.rf⟩
  have hl := lv_entry ([.ref h0]) (n := 2) (Nat.le_of_ble_eq_true rfl)
  rw [lg_entry_eq]
  generalize (lg_sl ([.ref h0]) ++ List.replicate (2 - (lg_sl ([.ref h0])).length) Slot.unset).toArray = ls at hl ⊢
  have hl : lv_has ls 2 [(0, .ref h0)] := hl
  refine lv_aload_n hx hb dX11_hill_0 rfl (lv_at hl 0 rfl) ?_
  refine t_gr hx hb hts hown hK hG hB mh0 th0 fq_11_1 rfl mw_2_208 dX11_hill_1 (fun b_1 hb_1 mb_1 tb_1 => ?_)
  refine lv_aload_n hx hb dX11_hill_4 rfl (lv_at hl 0 rfl) ?_
  refine t_gr hx hb hts hown hK hG hB mh0 th0 fq_11_0 rfl mw_2_207 dX11_hill_5 (fun b_2 hb_2 mb_2 tb_2 => ?_)
  refine t_ci (va_runV (As := [.ref b_2]) (rest := []) ⟨hx, hb, hml, hown, hts⟩ (cy_X4_read l D cA L T r hG hLA.1 σ ρ hB.2.1 _ adK adV b_1 mb_1 tb_1 b_2 mb_2 tb_2) (cV hts mv_X4_read mw_3_20 rfl rfl ⟨Nat.le_of_ble_eq_true rfl, Nat.le_of_ble_eq_true rfl⟩) (pVz hB.1 hK hN mb_1 tb_1 (show shp cA 4 _ _ _ = .inr (4, Fs4 _ _ _) from rfl) rfl (hV.to hS)) rfl rfl hl.1 rfl (lv_room (Nat.le_of_ble_eq_true rfl)) dX11_hill_8 ⟨Nat.le_of_ble_eq_true rfl, Nat.le_of_ble_eq_true rfl⟩) hLA hA hB hS (by decide) (fun x_5 σ_3 ρ_4 H locs hB fσ_3 pσ_3 hS => ?_)
  refine lv_istore_n (lv' := [(1, .int x_5), (0, .ref h0)]) hx hb dX11_hill_11 rfl hl (by decide) rfl (fun ls hl => ?_)
  refine lv_iload_n hx hb dX11_hill_12 rfl (lv_at hl 0 rfl) ?_
  refine lv_if_eq (tgt := 21) hx hb dX11_hill_13 (by decide) (fun c_6 => ?_) (fun c_6 => ?_)
  · skip
    have uc_6 := i_eq (n := 0) (by decide) c_6
    refine lv_aload_n hx hb dX11_hill_21 rfl (lv_at hl 1 rfl) ?_
    refine t_gk hx hb hts hown hK hB mh0 th0 fq_11_0 hb_2 mw_2_207 dX11_hill_22 ?_
    refine lv_iconst (v := 0) hx hb dX11_hill_25 (by decide) ?_
    refine t_pi hx hb hts hown hK hLA hB hS mb_2 tb_2 fi_9_4 rfl rfl rfl (by decide) (by decide) (Or.inl (by decide)) mw_1_40 dX11_hill_26 (fun H locs σ_7 eσ_7 hB hS => ?_)
    have k_8 : σ_7 b_2 4 = 0 := by rw [eσ_7]; exact up2_same _ _ _ _
    refine lv_aload_n hx hb dX11_hill_29 rfl (lv_at hl 1 rfl) ?_
    refine t_gr hx hb hts hown hK hG hB mh0 th0 fq_11_3 rfl mw_2_210 dX11_hill_30 (fun b_9 hb_9 mb_9 tb_9 => ?_)
    refine lv_aload_n hx hb dX11_hill_33 rfl (lv_at hl 1 rfl) ?_
    refine t_gk hx hb hts hown hK hB mh0 th0 fq_11_1 hb_1 mw_2_208 dX11_hill_34 ?_
    refine t_gr hx hb hts hown hK hG hB mb_1 tb_1 fq_4_0 rfl mw_1_214 dX11_hill_37 (fun b_10 hb_10 mb_10 tb_10 => ?_)
    refine t_cv (va_runV (As := [.ref b_10]) (rest := []) ⟨hx, hb, hml, hown, hts⟩ (cy_X10_begin l D cA L T r hG hLA.1 σ_7 ρ_4 hB.2.1 _ b_9 mb_9 tb_9 b_10 mb_10 tb_10) (cV hts mv_X10_begin mw_3_229 rfl rfl ⟨Nat.le_of_ble_eq_true rfl, Nat.le_of_ble_eq_true rfl⟩) (pV hB.1 hK hN mb_9 tb_9 (show shp cA 10 _ _ _ = .inr (10, Fs10 _ _ _) from rfl) rfl) rfl rfl hl.1 rfl (lv_room (Nat.le_of_ble_eq_true rfl)) dX11_hill_40 ⟨Nat.le_of_ble_eq_true rfl, Nat.le_of_ble_eq_true rfl⟩) hLA hA hB hS (by decide) (fun σ_11 ρ_12 H locs hB fσ_11 pσ_11 hS => ?_)
    refine lv_aload_n hx hb dX11_hill_43 rfl (lv_at hl 1 rfl) ?_
    refine t_gr hx hb hts hown hK hG hB mh0 th0 fq_11_5 rfl mw_2_212 dX11_hill_44 (fun b_14 hb_14 mb_14 tb_14 => ?_)
    refine t_cv (va_runV (As := []) (rest := []) ⟨hx, hb, hml, hown, hts⟩ (cy_X5_clear l D cA L T r hG hLA.1 σ_11 ρ_12 hB.2.1 _ b_14 mb_14 tb_14) (cV hts mv_X5_clear mw_4_6 rfl rfl ⟨Nat.le_of_ble_eq_true rfl, Nat.le_of_ble_eq_true rfl⟩) (pV hB.1 hK hN mb_14 tb_14 (show shp cA 5 _ _ _ = .inr (5, Fs5 _ _ _) from rfl) rfl) rfl rfl hl.1 rfl (lv_room (Nat.le_of_ble_eq_true rfl)) dX11_hill_47 ⟨Nat.le_of_ble_eq_true rfl, Nat.le_of_ble_eq_true rfl⟩) hLA hA hB hS (by decide) (fun σ_15 ρ_16 H locs hB fσ_15 pσ_15 hS => ?_)
    refine lv_aload_n hx hb dX11_hill_50 rfl (lv_at hl 1 rfl) ?_
    refine t_gr hx hb hts hown hK hG hB mh0 th0 fq_11_9 rfl mw_2_216 dX11_hill_51 (fun b_18 hb_18 mb_18 tb_18 => ?_)
    refine t_cv (va_runV (As := []) (rest := []) ⟨hx, hb, hml, hown, hts⟩ (cy_X2_forget l D cA L T r hG hLA.1 σ_15 ρ_16 hB.2.1 _ b_18 mb_18 tb_18) (cV hts mv_X2_forget mw_4_10 rfl rfl ⟨Nat.le_of_ble_eq_true rfl, Nat.le_of_ble_eq_true rfl⟩) (pV hB.1 hK hN mb_18 tb_18 (show shp cA 2 _ _ _ = .inr (2, Fs2 _ _ _) from rfl) rfl) rfl rfl hl.1 rfl (lv_room (Nat.le_of_ble_eq_true rfl)) dX11_hill_54 ⟨Nat.le_of_ble_eq_true rfl, Nat.le_of_ble_eq_true rfl⟩) hLA hA hB hS (by decide) (fun σ_19 ρ_20 H locs hB fσ_19 pσ_19 hS => ?_)
    refine lv_aload_n hx hb dX11_hill_57 rfl (lv_at hl 1 rfl) ?_
    refine t_gk hx hb hts hown hK hB mh0 th0 fq_11_3 hb_9 mw_2_210 dX11_hill_58 ?_
    refine t_gr hx hb hts hown hK hG hB mb_9 tb_9 fq_10_0 rfl mw_1_236 dX11_hill_61 (fun b_22 hb_22 mb_22 tb_22 => ?_)
    refine t_gi hx hb hts hown hK hB mb_22 tb_22 fi_3_9 rfl mw_1_182 dX11_hill_64 (fun x_23 ex_23 lx_23 ux_23 => ?_)
    have cx_23 := congrArg Int32.toInt ex_23
    exact W.iret (v := x_23) hx hb hr (fun t ht hW => ⟨⟨x_23, (σ_19, ρ_20), rfl, ⟨hB.2.1, hB.2.2, trivial⟩, (show TP D cA L T r σ_19 ρ_20 t.heap from by rw [ht]; exact hB.1)⟩, hS.F ht⟩) hS.2.2 dX11_hill_67
  · skip
    have uc_6 := i_ne (n := 0) (by decide) c_6
    refine lv_bipush (v := (-2)) hx hb dX11_hill_16 (by decide) ?_
    refine lv_iload_n hx hb dX11_hill_18 rfl (lv_at hl 0 rfl) ?_
    refine lv_isub hx hb dX11_hill_19 ?_
    refine lv_topi (fun x_24 ex_24 => ?_)
    try have vx_24 := b_sub (by decide : ((-2) : Int32).toInt = (-2)) (rfl : x_5.toInt = _) ex_24 (by omega) (by omega)
    exact W.iret (v := x_24) hx hb hr (fun t ht hW => ⟨⟨x_24, (σ_3, ρ_4), rfl, ⟨hB.2.1, hB.2.2, trivial⟩, (show TP D cA L T r σ_3 ρ_4 t.heap from by rw [ht]; exact hB.1)⟩, hS.F ht⟩) hS.2.2 dX11_hill_20
theorem mw_4_20 : (.instanceMethod yX7_read : Cond) ∈ wsA := wsA_t (List.mem_append_right _ (List.mem_append_right _ (List.mem_append_right _ (List.mem_append_left _ (List.mem_of_getElem? (l := tables_1_4) (i := 20) rfl))))) rfl
theorem mw_4_21 : (.selects RX7 yX7_read yX7_read : Cond) ∈ wsA := wsA_t (List.mem_append_right _ (List.mem_append_right _ (List.mem_append_right _ (List.mem_append_left _ (List.mem_of_getElem? (l := tables_1_4) (i := 21) rfl))))) rfl
theorem mw_4_22 : (.code yX7_read cX7_read 4 (some .int) : Cond) ∈ wsA := wsA_t (List.mem_append_right _ (List.mem_append_right _ (List.mem_append_right _ (List.mem_append_left _ (List.mem_of_getElem? (l := tables_1_4) (i := 22) rfl))))) rfl
theorem mw_4_19 : (.methodLink RX11 113 yX7_read : Cond) ∈ wsA := wsA_t (List.mem_append_right _ (List.mem_append_right _ (List.mem_append_right _ (List.mem_append_left _ (List.mem_of_getElem? (l := tables_1_4) (i := 19) rfl))))) rfl
theorem dX11_rule_0 : decode cX11_rule 0 = .ok (.aload_n 0, 1) := by decide +kernel
theorem dX11_rule_1 : decode cX11_rule 1 = .ok (.getfield 110, 3) := by decide +kernel
theorem dX11_rule_4 : decode cX11_rule 4 = .ok (.bipush 6, 2) := by decide +kernel
theorem dX11_rule_6 : decode cX11_rule 6 = .ok (.if_icmp .lt 5, 3) := by decide +kernel
theorem dX11_rule_11 : decode cX11_rule 11 = .ok (.aload_n 0, 1) := by decide +kernel
theorem dX11_rule_12 : decode cX11_rule 12 = .ok (.getfield 25, 3) := by decide +kernel
theorem dX11_rule_15 : decode cX11_rule 15 = .ok (.aload_n 0, 1) := by decide +kernel
theorem dX11_rule_16 : decode cX11_rule 16 = .ok (.getfield 110, 3) := by decide +kernel
theorem dX11_rule_19 : decode cX11_rule 19 = .ok (.aaload, 1) := by decide +kernel
theorem dX11_rule_20 : decode cX11_rule 20 = .ok (.aload_n 0, 1) := by decide +kernel
theorem dX11_rule_21 : decode cX11_rule 21 = .ok (.getfield 10, 3) := by decide +kernel
theorem dX11_rule_24 : decode cX11_rule 24 = .ok (.invokevirtual 113, 3) := by decide +kernel
theorem dX11_rule_27 : decode cX11_rule 27 = .ok (.istore_n 1, 1) := by decide +kernel
theorem dX11_rule_28 : decode cX11_rule 28 = .ok (.aload_n 0, 1) := by decide +kernel
theorem dX11_rule_29 : decode cX11_rule 29 = .ok (.getfield 10, 3) := by decide +kernel
theorem dX11_rule_32 : decode cX11_rule 32 = .ok (.iconst 0, 1) := by decide +kernel
theorem dX11_rule_33 : decode cX11_rule 33 = .ok (.putfield 76, 3) := by decide +kernel
theorem dX11_rule_36 : decode cX11_rule 36 = .ok (.iload_n 1, 1) := by decide +kernel
theorem dX11_rule_37 : decode cX11_rule 37 = .ok (.ifCond .eq 8, 3) := by decide +kernel
theorem dX11_rule_45 : decode cX11_rule 45 = .ok (.aload_n 0, 1) := by decide +kernel
theorem dX11_rule_46 : decode cX11_rule 46 = .ok (.dup, 1) := by decide +kernel
theorem dX11_rule_47 : decode cX11_rule 47 = .ok (.getfield 110, 3) := by decide +kernel
theorem dX11_rule_50 : decode cX11_rule 50 = .ok (.iconst 1, 1) := by decide +kernel
theorem dX11_rule_51 : decode cX11_rule 51 = .ok (.iadd, 1) := by decide +kernel
theorem dX11_rule_52 : decode cX11_rule 52 = .ok (.putfield 110, 3) := by decide +kernel
theorem dX11_rule_55 : decode cX11_rule 55 = .ok (.aload_n 0, 1) := by decide +kernel
theorem dX11_rule_56 : decode cX11_rule 56 = .ok (.getfield 110, 3) := by decide +kernel
theorem dX11_rule_59 : decode cX11_rule 59 = .ok (.iconst 1, 1) := by decide +kernel
theorem dX11_rule_60 : decode cX11_rule 60 = .ok (.isub, 1) := by decide +kernel
theorem dX11_rule_61 : decode cX11_rule 61 = .ok (.ireturn, 1) := by decide +kernel
theorem dX11_rule_40 : decode cX11_rule 40 = .ok (.bipush (-2), 2) := by decide +kernel
theorem dX11_rule_42 : decode cX11_rule 42 = .ok (.iload_n 1, 1) := by decide +kernel
theorem dX11_rule_43 : decode cX11_rule 43 = .ok (.isub, 1) := by decide +kernel
theorem dX11_rule_44 : decode cX11_rule 44 = .ok (.ireturn, 1) := by decide +kernel
theorem dX11_rule_9 : decode cX11_rule 9 = .ok (.iconst (-1), 1) := by decide +kernel
theorem dX11_rule_10 : decode cX11_rule 10 = .ok (.ireturn, 1) := by decide +kernel
theorem mv_X7_read : MV RX7 yX7_read cX7_read 4 (some .int) 1 := ⟨mw_4_20, mw_4_21, mw_1_12, mw_4_22, ⟨rfl, by decide, by decide, by decide +kernel⟩⟩
set_option maxHeartbeats 4000000 in
set_option maxRecDepth 100000 in
theorem cy_X11_rule (l : Launch) (D : va_G) (cA : Nat → ClassId) (L : List Nat) (T : Nat → Nat) (r : Rg) (hG : GR L T r) (hL : L.Nodup) (σ : Sg) (ρ : Lg) (hW : WT L ry T σ) (sz : Nat) (adK adV : Nat → Nat) (h0 : Nat) (mh0 : h0 ∈ L) (th0 : T h0 = 11) : Met l yX11_rule (.code yX11_rule cX11_rule 2 (some .int) :: wsA) ({ frames := 27, cells := 0, slots := 0, locals := 669 }) (PZ adK adV D cA L T r σ ρ sz [.ref h0]) (QI D cA L T r ry [(7, 4), (7, 5), (7, 6), (7, 7), (9, 4), (9, 5), (9, 6), (11, 10), (41, 1000), (42, 1000), (43, 1000), (44, 1000), (52, 1000), (53, 1000), (54, 1000)] σ sz (fun x σ1 => True)) 0 0 (dm L sz) := by
  refine Met.ofW (cc := cX11_rule) (maxL := 2) (ret := (some .int)) (by decide) rfl ?_
  intro p e s m args below meth c s₁ B hml hv
  obtain ⟨rfl, hsz, hP, hK, hN, hV⟩ := hv
  have hx := B.exec
  have hb := B.bytes
  have hr := B.returns
  have hts : ∀ w ∈ wsA, w.before _ s = true := fun w h => atoms_spec (ws := .code yX11_rule cX11_rule 2 (some .int) :: wsA) B.pre w (List.mem_cons_of_mem _ h)
  have hown : s.vm.findClass RX11 = some m.cls := findClass_of_methodNamed B.named
  subst hsz
  have hLA : LA (dm L s.heap.size) L := ⟨hL, fun a h => Or.inl h⟩
  have hA : ∀ q : Nat, s.heap.size ≤ q → dm L s.heap.size q := fun q h => Or.inr h
  have hS : va_S (dm L s.heap.size) s.heap s.heap [] := va_S.rf
  have hB : TS D cA L T r ry [(7, 4), (7, 5), (7, 6), (7, 7), (9, 4), (9, 5), (9, 6), (11, 10), (41, 1000), (42, 1000), (43, 1000), (44, 1000), (52, 1000), (53, 1000), (54, 1000)] σ σ ρ s.heap := ⟨hP, hW, FR.rf⟩
  have hl := lv_entry ([.ref h0]) (n := 2) (Nat.le_of_ble_eq_true rfl)
  rw [lg_entry_eq]
  generalize (lg_sl ([.ref h0]) ++ List.replicate (2 - (lg_sl ([.ref h0])).length) Slot.unset).toArray = ls at hl ⊢
  have hl : lv_has ls 2 [(0, .ref h0)] := hl
  refine lv_aload_n hx hb dX11_rule_0 rfl (lv_at hl 0 rfl) ?_
  refine t_gi hx hb hts hown hK hB mh0 th0 fi_11_10 rfl mw_2_217 dX11_rule_1 (fun x_1 ex_1 lx_1 ux_1 => ?_)
  have cx_1 := congrArg Int32.toInt ex_1
  refine lv_bipush (v := 6) hx hb dX11_rule_4 (by decide) ?_
  refine lv_icmp_lt (tgt := 11) hx hb dX11_rule_6 (by decide) (fun c_2 => ?_) (fun c_2 => ?_)
  · skip
    have uc_2 := i_lt (n := 6) (by decide) c_2
    refine lv_aload_n hx hb dX11_rule_11 rfl (lv_at hl 0 rfl) ?_
    refine t_gr hx hb hts hown hK hG hB mh0 th0 fq_11_2 rfl mw_2_209 dX11_rule_12 (fun b_3 hb_3 mb_3 tb_3 => ?_)
    refine lv_aload_n hx hb dX11_rule_15 rfl (lv_at hl 0 rfl) ?_
    refine t_gv hx hb hts hown hK hB mh0 th0 fi_11_10 ex_1.symm mw_2_217 dX11_rule_16 ?_
    refine t_aq hx hb hK hG hB mb_3 tb_3 aq_59 rfl (i_in (by omega) (by omega)) dX11_rule_19 (fun b_4 hb_4 mb_4 tb_4 => ?_)
    refine lv_aload_n hx hb dX11_rule_20 rfl (lv_at hl 0 rfl) ?_
    refine t_gr hx hb hts hown hK hG hB mh0 th0 fq_11_0 rfl mw_2_207 dX11_rule_21 (fun b_5 hb_5 mb_5 tb_5 => ?_)
    refine t_ci (va_runV (As := [.ref b_5]) (rest := []) ⟨hx, hb, hml, hown, hts⟩ (cy_X7_read l D cA L T r hG hLA.1 σ ρ hB.2.1 _ adK adV b_4 mb_4 tb_4 b_5 mb_5 tb_5) (cV hts mv_X7_read mw_4_19 rfl rfl ⟨Nat.le_of_ble_eq_true rfl, Nat.le_of_ble_eq_true rfl⟩) (pVz hB.1 hK hN mb_4 tb_4 (show shp cA 7 _ _ _ = .inr (7, Fs7 _ _ _) from rfl) rfl (hV.to hS)) rfl rfl hl.1 rfl (lv_room (Nat.le_of_ble_eq_true rfl)) dX11_rule_24 ⟨Nat.le_of_ble_eq_true rfl, Nat.le_of_ble_eq_true rfl⟩) hLA hA hB hS (by decide) (fun x_8 σ_6 ρ_7 H locs hB fσ_6 pσ_6 hS => ?_)
    refine lv_istore_n (lv' := [(1, .int x_8), (0, .ref h0)]) hx hb dX11_rule_27 rfl hl (by decide) rfl (fun ls hl => ?_)
    refine lv_aload_n hx hb dX11_rule_28 rfl (lv_at hl 1 rfl) ?_
    refine t_gk hx hb hts hown hK hB mh0 th0 fq_11_0 hb_5 mw_2_207 dX11_rule_29 ?_
    refine lv_iconst (v := 0) hx hb dX11_rule_32 (by decide) ?_
    refine t_pi hx hb hts hown hK hLA hB hS mb_5 tb_5 fi_9_4 rfl rfl rfl (by decide) (by decide) (Or.inl (by decide)) mw_1_40 dX11_rule_33 (fun H locs σ_9 eσ_9 hB hS => ?_)
    have k_10 : σ_9 b_5 4 = 0 := by rw [eσ_9]; exact up2_same _ _ _ _
    refine lv_iload_n hx hb dX11_rule_36 rfl (lv_at hl 0 rfl) ?_
    refine lv_if_eq (tgt := 45) hx hb dX11_rule_37 (by decide) (fun c_11 => ?_) (fun c_11 => ?_)
    · skip
      have uc_11 := i_eq (n := 0) (by decide) c_11
      refine lv_aload_n hx hb dX11_rule_45 rfl (lv_at hl 1 rfl) ?_
      refine lv_dup hx hb dX11_rule_46 rfl ?_
      have k_12 : σ_6 h0 10 = x_1 := (FR.at fσ_6 th0 (by decide)).trans ex_1.symm
      have k_13 : σ_9 h0 10 = x_1 := by rw [eσ_9, up2_nej _ _ (by decide)]; exact k_12
      refine t_gv hx hb hts hown hK hB mh0 th0 fi_11_10 k_13 mw_2_217 dX11_rule_47 ?_
      refine lv_iconst (v := 1) hx hb dX11_rule_50 (by decide) ?_
      refine lv_iadd hx hb dX11_rule_51 ?_
      refine lv_topi (fun x_14 ex_14 => ?_)
      have vx_14 := b_add (rfl : x_1.toInt = _) (by decide : (1 : Int32).toInt = 1) ex_14 (by omega) (by omega)
      refine t_pi hx hb hts hown hK hLA hB hS mh0 th0 fi_11_10 rfl rfl rfl (by first | omega | (subst_vars; omega)) (by first | omega | (subst_vars; omega)) (Or.inl (by decide)) mw_2_217 dX11_rule_52 (fun H locs σ_15 eσ_15 hB hS => ?_)
      have k_16 : σ_15 h0 10 = x_14 := by rw [eσ_15]; exact up2_same _ _ _ _
      refine lv_aload_n hx hb dX11_rule_55 rfl (lv_at hl 1 rfl) ?_
      refine t_gv hx hb hts hown hK hB mh0 th0 fi_11_10 k_16 mw_2_217 dX11_rule_56 ?_
      refine lv_iconst (v := 1) hx hb dX11_rule_59 (by decide) ?_
      refine lv_isub hx hb dX11_rule_60 ?_
      refine lv_topi (fun x_17 ex_17 => ?_)
      have vx_17 := b_sub (rfl : x_14.toInt = _) (by decide : (1 : Int32).toInt = 1) ex_17 (by omega) (by omega)
      exact W.iret (v := x_17) hx hb hr (fun t ht hW => ⟨⟨x_17, (σ_15, ρ_7), rfl, ⟨hB.2.1, hB.2.2, trivial⟩, (show TP D cA L T r σ_15 ρ_7 t.heap from by rw [ht]; exact hB.1)⟩, hS.F ht⟩) hS.2.2 dX11_rule_61
    · skip
      have uc_11 := i_ne (n := 0) (by decide) c_11
      refine lv_bipush (v := (-2)) hx hb dX11_rule_40 (by decide) ?_
      refine lv_iload_n hx hb dX11_rule_42 rfl (lv_at hl 0 rfl) ?_
      refine lv_isub hx hb dX11_rule_43 ?_
      refine lv_topi (fun x_18 ex_18 => ?_)
      try have vx_18 := b_sub (by decide : ((-2) : Int32).toInt = (-2)) (rfl : x_8.toInt = _) ex_18 (by omega) (by omega)
      exact W.iret (v := x_18) hx hb hr (fun t ht hW => ⟨⟨x_18, (σ_9, ρ_7), rfl, ⟨hB.2.1, hB.2.2, trivial⟩, (show TP D cA L T r σ_9 ρ_7 t.heap from by rw [ht]; exact hB.1)⟩, hS.F ht⟩) hS.2.2 dX11_rule_44
  · skip
    have uc_2 := i_nlt (n := 6) (by decide) c_2
    refine lv_iconst (v := (-1)) hx hb dX11_rule_9 (by decide) ?_
    exact W.iret (v := (-1)) hx hb hr (fun t ht hW => ⟨⟨(-1), (σ, ρ), rfl, ⟨hB.2.1, hB.2.2, trivial⟩, (show TP D cA L T r σ ρ t.heap from by rw [ht]; exact hB.1)⟩, hS.F ht⟩) hS.2.2 dX11_rule_10
