theorem PU.lf {σ σ1 σ2 : Sg} {bg bl : Nat} {tx v : Int32} (eg : σ1 bg = σ bg) (el : σ1 bl = σ bl) (h : PU σ1 σ2 bg bl tx v) : PU σ σ2 bg bl tx v := by
  unfold PU at h ⊢; rw [eg, el] at h; exact h
theorem mu_lt {a b : Int} (h1 : a < b) (h2 : b ≤ 400) : (400 - b).toNat < (400 - a).toNat := by omega
theorem pk_11 {x : Int32} (h : x.toInt = 11) : (x + 16 * 0) &&& 15 = 11 := by
  have e : x = 11 := i_is (by decide) h
  subst e; decide
theorem pk_12 {x : Int32} (h : x.toInt = 12) : (x + 16 * 0) &&& 15 = 12 := by
  have e : x = 12 := i_is (by decide) h
  subst e; decide
theorem pk_13 {x : Int32} (h : x.toInt = 13) : (x + 16 * 0) &&& 15 = 13 := by
  have e : x = 13 := i_is (by decide) h
  subst e; decide
theorem TV.st {σ : Sg} {h bg bl bo : Nat} {tx : Int32} {a : Nat} (hs : SD (σ bg) (σ bl) tx a 0) (h0 : (σ h 16).toInt = 0) (hm : 0 ≤ (σ h 12).toInt) (hl : (σ bl tx.toNatClampNeg).toInt ≤ (σ h 8).toInt) : TV σ h bg bl bo tx a 0 := by
  unfold TV; rw [show (σ h 16).toInt.toNat = 0 by omega]
  exact ⟨hs, hm, fun k hk => absurd hk (Nat.not_lt_zero k), by omega⟩
theorem O4.none {o : Nat → Int32} {n : Nat} (h : O4 o n) (h9 : ∀ j : Nat, j < n → (o j).toInt ≠ 91) (m : Nat) (hm : m ≤ n) (ht : m = 0 ∨ ((o (m - 1)).toInt ≠ 11 ∧ (o (m - 1)).toInt ≠ 12 ∧ (o (m - 1)).toInt ≠ 13)) : m = 0 := by
  rcases ht with ht | ht
  · exact ht
  · by_cases e : m = 0
    · exact e
    · have a := h (m - 1) (by omega); have b := h9 (m - 1) (by omega); omega
theorem mw_6_218 : (.instanceMethod yX12_sum : Cond) ∈ wsA := wsA_t (List.mem_append_right _ (List.mem_append_right _ (List.mem_append_right _ (List.mem_append_right _ (List.mem_append_right _ (List.mem_append_left _ (List.mem_of_getElem? (l := tables_1_6) (i := 218) rfl))))))) rfl
theorem mp_4_15 : (.selects RX12 yX12_sum yX12_sum : Cond) ∈ wsA := wsA_p (q := (yX12_sum, 44)) (List.mem_append_right _ (List.mem_append_right _ (List.mem_append_right _ (List.mem_append_left _ (List.mem_of_getElem? (l := lw_privs_4) (i := 15) rfl)))))
theorem mw_6_219 : (.code yX12_sum cX12_sum 2 (some .boolean) : Cond) ∈ wsA := wsA_t (List.mem_append_right _ (List.mem_append_right _ (List.mem_append_right _ (List.mem_append_right _ (List.mem_append_right _ (List.mem_append_left _ (List.mem_of_getElem? (l := tables_1_6) (i := 219) rfl))))))) rfl
theorem mw_6_216 : (.methodLink RX12 191 yX12_sum : Cond) ∈ wsA := wsA_t (List.mem_append_right _ (List.mem_append_right _ (List.mem_append_right _ (List.mem_append_right _ (List.mem_append_right _ (List.mem_append_left _ (List.mem_of_getElem? (l := tables_1_6) (i := 216) rfl))))))) rfl
theorem dX12_compare_0 : decode cX12_compare 0 = .ok (.aload_n 0, 1) := by decide +kernel
theorem dX12_compare_1 : decode cX12_compare 1 = .ok (.invokevirtual 191, 3) := by decide +kernel
theorem dX12_compare_4 : decode cX12_compare 4 = .ok (.ifCond .ne 5, 3) := by decide +kernel
theorem dX12_compare_9 : decode cX12_compare 9 = .ok (.aload_n 0, 1) := by decide +kernel
theorem dX12_compare_10 : decode cX12_compare 10 = .ok (.invokevirtual 105, 3) := by decide +kernel
theorem dX12_compare_13 : decode cX12_compare 13 = .ok (.istore_n 1, 1) := by decide +kernel
theorem dX12_compare_14 : decode cX12_compare 14 = .ok (.aload_n 0, 1) := by decide +kernel
theorem dX12_compare_15 : decode cX12_compare 15 = .ok (.getfield 102, 3) := by decide +kernel
theorem dX12_compare_18 : decode cX12_compare 18 = .ok (.istore_n 2, 1) := by decide +kernel
theorem dX12_compare_19 : decode cX12_compare 19 = .ok (.iload_n 1, 1) := by decide +kernel
theorem dX12_compare_20 : decode cX12_compare 20 = .ok (.bipush 60, 2) := by decide +kernel
theorem dX12_compare_22 : decode cX12_compare 22 = .ok (.if_icmp .eq 22, 3) := by decide +kernel
theorem dX12_compare_44 : decode cX12_compare 44 = .ok (.aload_n 0, 1) := by decide +kernel
theorem dX12_compare_45 : decode cX12_compare 45 = .ok (.dup, 1) := by decide +kernel
theorem dX12_compare_46 : decode cX12_compare 46 = .ok (.getfield 102, 3) := by decide +kernel
theorem dX12_compare_49 : decode cX12_compare 49 = .ok (.iconst 1, 1) := by decide +kernel
theorem dX12_compare_50 : decode cX12_compare 50 = .ok (.iadd, 1) := by decide +kernel
theorem dX12_compare_51 : decode cX12_compare 51 = .ok (.putfield 102, 3) := by decide +kernel
theorem dX12_compare_54 : decode cX12_compare 54 = .ok (.iload_n 1, 1) := by decide +kernel
theorem dX12_compare_55 : decode cX12_compare 55 = .ok (.bipush 61, 2) := by decide +kernel
theorem dX12_compare_57 : decode cX12_compare 57 = .ok (.if_icmp .eq 32, 3) := by decide +kernel
theorem dX12_compare_60 : decode cX12_compare 60 = .ok (.aload_n 0, 1) := by decide +kernel
theorem dX12_compare_61 : decode cX12_compare 61 = .ok (.getfield 102, 3) := by decide +kernel
theorem dX12_compare_64 : decode cX12_compare 64 = .ok (.aload_n 0, 1) := by decide +kernel
theorem dX12_compare_65 : decode cX12_compare 65 = .ok (.getfield 92, 3) := by decide +kernel
theorem dX12_compare_68 : decode cX12_compare 68 = .ok (.if_icmp .ge 21, 3) := by decide +kernel
theorem dX12_compare_89 : decode cX12_compare 89 = .ok (.iconst 0, 1) := by decide +kernel
theorem dX12_compare_90 : decode cX12_compare 90 = .ok (.istore_n 3, 1) := by decide +kernel
theorem dX12_compare_91 : decode cX12_compare 91 = .ok (.iload_n 3, 1) := by decide +kernel
theorem dX12_compare_92 : decode cX12_compare 92 = .ok (.ifCond .eq 13, 3) := by decide +kernel
theorem dX12_compare_105 : decode cX12_compare 105 = .ok (.aload_n 0, 1) := by decide +kernel
theorem dX12_compare_106 : decode cX12_compare 106 = .ok (.iload_n 2, 1) := by decide +kernel
theorem dX12_compare_107 : decode cX12_compare 107 = .ok (.invokevirtual 178, 3) := by decide +kernel
theorem dX12_compare_110 : decode cX12_compare 110 = .ok (.ifCond .ne 5, 3) := by decide +kernel
theorem dX12_compare_115 : decode cX12_compare 115 = .ok (.iload_n 1, 1) := by decide +kernel
theorem dX12_compare_116 : decode cX12_compare 116 = .ok (.bipush 60, 2) := by decide +kernel
theorem dX12_compare_118 : decode cX12_compare 118 = .ok (.if_icmp .ne 15, 3) := by decide +kernel
theorem dX12_compare_121 : decode cX12_compare 121 = .ok (.iload_n 3, 1) := by decide +kernel
theorem dX12_compare_122 : decode cX12_compare 122 = .ok (.ifCond .eq 7, 3) := by decide +kernel
theorem dX12_compare_129 : decode cX12_compare 129 = .ok (.iconst 0, 1) := by decide +kernel
theorem dX12_compare_130 : decode cX12_compare 130 = .ok (.goto 22, 3) := by decide +kernel
theorem dX12_compare_152 : decode cX12_compare 152 = .ok (.istore 4, 2) := by decide +kernel
theorem dX12_compare_154 : decode cX12_compare 154 = .ok (.aload_n 0, 1) := by decide +kernel
theorem dX12_compare_155 : decode cX12_compare 155 = .ok (.invokevirtual 191, 3) := by decide +kernel
theorem dX12_compare_158 : decode cX12_compare 158 = .ok (.ifCond .ne 5, 3) := by decide +kernel
theorem dX12_compare_163 : decode cX12_compare 163 = .ok (.aload_n 0, 1) := by decide +kernel
theorem dX12_compare_164 : decode cX12_compare 164 = .ok (.bipush 6, 2) := by decide +kernel
theorem dX12_compare_166 : decode cX12_compare 166 = .ok (.iload 4, 2) := by decide +kernel
theorem dX12_compare_168 : decode cX12_compare 168 = .ok (.iadd, 1) := by decide +kernel
theorem dX12_compare_169 : decode cX12_compare 169 = .ok (.iconst 0, 1) := by decide +kernel
theorem dX12_compare_170 : decode cX12_compare 170 = .ok (.invokevirtual 170, 3) := by decide +kernel
theorem dX12_compare_173 : decode cX12_compare 173 = .ok (.iconst 1, 1) := by decide +kernel
theorem dX12_compare_174 : decode cX12_compare 174 = .ok (.ireturn, 1) := by decide +kernel
theorem dX12_compare_161 : decode cX12_compare 161 = .ok (.iconst 0, 1) := by decide +kernel
theorem dX12_compare_162 : decode cX12_compare 162 = .ok (.ireturn, 1) := by decide +kernel
theorem dX12_compare_113 : decode cX12_compare 113 = .ok (.iconst 0, 1) := by decide +kernel
theorem dX12_compare_114 : decode cX12_compare 114 = .ok (.ireturn, 1) := by decide +kernel
theorem dX12_compare_71 : decode cX12_compare 71 = .ok (.aload_n 0, 1) := by decide +kernel
theorem dX12_compare_72 : decode cX12_compare 72 = .ok (.getfield 7, 3) := by decide +kernel
theorem dX12_compare_75 : decode cX12_compare 75 = .ok (.aload_n 0, 1) := by decide +kernel
theorem dX12_compare_76 : decode cX12_compare 76 = .ok (.getfield 102, 3) := by decide +kernel
theorem dX12_compare_79 : decode cX12_compare 79 = .ok (.baload, 1) := by decide +kernel
theorem dX12_compare_80 : decode cX12_compare 80 = .ok (.bipush 61, 2) := by decide +kernel
theorem dX12_compare_82 : decode cX12_compare 82 = .ok (.if_icmp .ne 7, 3) := by decide +kernel
theorem dX12_compare_85 : decode cX12_compare 85 = .ok (.iconst 1, 1) := by decide +kernel
theorem dX12_compare_86 : decode cX12_compare 86 = .ok (.goto 4, 3) := by decide +kernel
theorem dX12_compare_95 : decode cX12_compare 95 = .ok (.aload_n 0, 1) := by decide +kernel
theorem dX12_compare_96 : decode cX12_compare 96 = .ok (.dup, 1) := by decide +kernel
theorem dX12_compare_97 : decode cX12_compare 97 = .ok (.getfield 102, 3) := by decide +kernel
theorem dX12_compare_100 : decode cX12_compare 100 = .ok (.iconst 1, 1) := by decide +kernel
theorem dX12_compare_101 : decode cX12_compare 101 = .ok (.iadd, 1) := by decide +kernel
theorem dX12_compare_102 : decode cX12_compare 102 = .ok (.putfield 102, 3) := by decide +kernel
theorem dX12_compare_125 : decode cX12_compare 125 = .ok (.iconst 1, 1) := by decide +kernel
theorem dX12_compare_126 : decode cX12_compare 126 = .ok (.goto 26, 3) := by decide +kernel
theorem dX12_compare_25 : decode cX12_compare 25 = .ok (.iload_n 1, 1) := by decide +kernel
theorem dX12_compare_26 : decode cX12_compare 26 = .ok (.bipush 61, 2) := by decide +kernel
theorem dX12_compare_28 : decode cX12_compare 28 = .ok (.if_icmp .eq 16, 3) := by decide +kernel
theorem dX12_compare_133 : decode cX12_compare 133 = .ok (.iload_n 1, 1) := by decide +kernel
theorem dX12_compare_134 : decode cX12_compare 134 = .ok (.bipush 61, 2) := by decide +kernel
theorem dX12_compare_136 : decode cX12_compare 136 = .ok (.if_icmp .ne 7, 3) := by decide +kernel
theorem dX12_compare_139 : decode cX12_compare 139 = .ok (.iconst 2, 1) := by decide +kernel
theorem dX12_compare_140 : decode cX12_compare 140 = .ok (.goto 12, 3) := by decide +kernel
theorem dX12_compare_31 : decode cX12_compare 31 = .ok (.iload_n 1, 1) := by decide +kernel
theorem dX12_compare_32 : decode cX12_compare 32 = .ok (.bipush 62, 2) := by decide +kernel
theorem dX12_compare_34 : decode cX12_compare 34 = .ok (.if_icmp .eq 10, 3) := by decide +kernel
theorem dX12_compare_143 : decode cX12_compare 143 = .ok (.iload_n 3, 1) := by decide +kernel
theorem dX12_compare_144 : decode cX12_compare 144 = .ok (.ifCond .eq 7, 3) := by decide +kernel
theorem dX12_compare_151 : decode cX12_compare 151 = .ok (.iconst 4, 1) := by decide +kernel
theorem dX12_compare_147 : decode cX12_compare 147 = .ok (.iconst 3, 1) := by decide +kernel
theorem dX12_compare_148 : decode cX12_compare 148 = .ok (.goto 4, 3) := by decide +kernel
theorem dX12_compare_37 : decode cX12_compare 37 = .ok (.aload_n 0, 1) := by decide +kernel
theorem dX12_compare_38 : decode cX12_compare 38 = .ok (.iconst 0, 1) := by decide +kernel
theorem dX12_compare_39 : decode cX12_compare 39 = .ok (.iload_n 2, 1) := by decide +kernel
theorem dX12_compare_40 : decode cX12_compare 40 = .ok (.invokevirtual 123, 3) := by decide +kernel
theorem dX12_compare_43 : decode cX12_compare 43 = .ok (.ireturn, 1) := by decide +kernel
theorem dX12_compare_7 : decode cX12_compare 7 = .ok (.iconst 0, 1) := by decide +kernel
theorem dX12_compare_8 : decode cX12_compare 8 = .ok (.ireturn, 1) := by decide +kernel
theorem mv_X12_sum : MV RX12 yX12_sum cX12_sum 2 (some .boolean) 0 := ⟨mw_6_218, mp_4_15, mw_1_13, mw_6_219, ⟨rfl, by decide, by decide, by decide +kernel⟩⟩
set_option maxHeartbeats 4000000 in
set_option maxRecDepth 100000 in
theorem cz_X12_compare (l : Launch) (D : va_G) (cA : Nat → ClassId) (L : List Nat) (T : Nat → Nat) (r : Rg) (hG : GR L T r) (hL : L.Nodup) (σ : Sg) (ρ : Lg) (hW : WT L ry T σ) (sz : Nat) (h0 : Nat) (mh0 : h0 ∈ L) (th0 : T h0 = 12) (bt : Nat) (hbt : r h0 0 = some bt) (mbt : bt ∈ L) (tbt : T bt = 61) (bg : Nat) (hbg : r h0 3 = some bg) (mbg : bg ∈ L) (tbg : T bg = 62) (bl : Nat) (hbl : r h0 4 = some bl) (mbl : bl ∈ L) (tbl : T bl = 63) (tx : Int32) (k0 : σ h0 11 = tx) (w0 : 0 ≤ tx.toInt) (w1 : tx.toInt ≤ 5) (w2 : (σ bl tx.toNatClampNeg).toInt ≤ (σ h0 8).toInt) : Met l yX12_compare (.code yX12_compare cX12_compare 5 (some .boolean) :: wsA) ({ frames := 6, cells := 0, slots := 0, locals := 130 }) (PR D cA L T r σ ρ sz [.ref h0]) (QI D cA L T r ry [(12, 8), (12, 9), (12, 10), (12, 12), (62, 1000), (63, 1000)] σ sz (fun x σ1 => (0 ≤ x.toInt ∧ x.toInt ≤ 1) ∧ ((σ h0 8).toInt ≤ (σ1 h0 8).toInt) ∧ (EX (σ bg) (σ bl) (σ1 bg) (σ1 bl) tx) ∧ (x.toInt = 1 → RLx σ σ1 h0 bg bl tx 1 0))) 0 0 (dm L sz) := by
  refine Met.ofW (cc := cX12_compare) (maxL := 5) (ret := (some .boolean)) (by decide) rfl ?_
  intro p e s m args below meth c s₁ B hml hv
  obtain ⟨rfl, hsz, hP, hK, hN⟩ := hv
  have hx := B.exec
  have hb := B.bytes
  have hr := B.returns
  have hts : ∀ w ∈ wsA, w.before _ s = true := fun w h => atoms_spec (ws := .code yX12_compare cX12_compare 5 (some .boolean) :: wsA) B.pre w (List.mem_cons_of_mem _ h)
  have hown : s.vm.findClass RX12 = some m.cls := findClass_of_methodNamed B.named
  subst hsz
  have hLA : LA (dm L s.heap.size) L := ⟨hL, fun a h => Or.inl h⟩
  have hA : ∀ q : Nat, s.heap.size ≤ q → dm L s.heap.size q := fun q h => Or.inr h
  have hS : va_S (dm L s.heap.size) s.heap s.heap [] := va_S.rf
  have hB : TS D cA L T r ry [(12, 8), (12, 9), (12, 10), (12, 12), (62, 1000), (63, 1000)] σ σ ρ s.heap := ⟨hP, hW, FR.rf⟩
  have hl := lv_entry ([.ref h0]) (n := 5) (Nat.le_of_ble_eq_true rfl)
  rw [lg_entry_eq]
  generalize (lg_sl ([.ref h0]) ++ List.replicate (5 - (lg_sl ([.ref h0])).length) Slot.unset).toArray = ls at hl ⊢
  have hl : lv_has ls 5 [(0, .ref h0)] := hl
  have w_1 : 0 ≤ (σ h0 8).toInt ∧ (σ h0 8).toInt ≤ 400 := by have z := hB.2.1 h0 mh0 8; rw [th0] at z; exact z
  have w_2 : 0 ≤ (σ h0 1).toInt ∧ (σ h0 1).toInt ≤ 400 := by have z := hB.2.1 h0 mh0 1; rw [th0] at z; exact z
  have w_3 : 0 ≤ (σ h0 12).toInt ∧ (σ h0 12).toInt ≤ 60 := by have z := hB.2.1 h0 mh0 12; rw [th0] at z; exact z
  have w_4 : 0 ≤ (σ bl tx.toNatClampNeg).toInt ∧ (σ bl tx.toNatClampNeg).toInt ≤ 400 := by have z := hB.2.1 bl mbl tx.toNatClampNeg; rw [tbl] at z; exact z
  have R0 : RLx σ σ h0 bg bl tx 0 0 := RLx.rf
  refine lv_aload_n hx hb dX12_compare_0 rfl (lv_at hl 0 rfl) ?_
  refine t_ci (va_runV (As := []) (rest := []) ⟨hx, hb, hml, hown, hts⟩ (cz_X12_sum l D cA L T r hG hLA.1 σ ρ hB.2.1 _ h0 mh0 th0 bt hbt mbt tbt bg hbg mbg tbg bl hbl mbl tbl tx k0 (by first | omega | decide) (by first | omega | decide) (by omega)) (cV hts mv_X12_sum mw_6_216 rfl rfl ⟨Nat.le_of_ble_eq_true rfl, Nat.le_of_ble_eq_true rfl⟩) (pV hB.1 hK hN mh0 th0 (show shp cA 12 _ _ _ = .inr (12, Fs12 _ _ _) from rfl) rfl) rfl rfl hl.1 rfl (lv_room (Nat.le_of_ble_eq_true rfl)) dX12_compare_1 ⟨Nat.le_of_ble_eq_true rfl, Nat.le_of_ble_eq_true rfl⟩) hLA hA hB hS (by decide) (fun x_7 σ_5 ρ_6 H locs hB fσ_5 pσ_5 hS => ?_)
  obtain ⟨g_8, g_9, g_10, g_11⟩ := pσ_5
  have w_12 : 0 ≤ (σ_5 bl tx.toNatClampNeg).toInt ∧ (σ_5 bl tx.toNatClampNeg).toInt ≤ 400 := by have z := hB.2.1 bl mbl tx.toNatClampNeg; rw [tbl] at z; exact z
  have w_13 : 0 ≤ (σ_5 h0 8).toInt ∧ (σ_5 h0 8).toInt ≤ 400 := by have z := hB.2.1 h0 mh0 8; rw [th0] at z; exact z
  have w_14 : 0 ≤ (σ_5 h0 12).toInt ∧ (σ_5 h0 12).toInt ≤ 60 := by have z := hB.2.1 h0 mh0 12; rw [th0] at z; exact z
  have ex_15 := EX.tr EX.rf g_10
  obtain ⟨lx_7, ux_7⟩ := g_8
  have k_16 : σ_5 h0 1 = (σ h0 1) := (FR.at fσ_5 th0 (by decide)).trans rfl
  have cq_17 : (σ_5 h0 1).toInt = (σ h0 1).toInt := congrArg Int32.toInt k_16
  refine lv_if_ne (tgt := 9) hx hb dX12_compare_4 (by decide) (fun c_18 => ?_) (fun c_18 => ?_)
  · skip
    have uc_18 := i_ne (n := 0) (by decide) c_18
    have R_19 : RLx σ σ_5 h0 bg bl tx 1 0 := RLx.tr R0 (g_11 (by omega))
    have R_19n := R_19.2.1
    refine lv_aload_n hx hb dX12_compare_9 rfl (lv_at hl 0 rfl) ?_
    refine t_ci (va_runV (As := []) (rest := []) ⟨hx, hb, hml, hown, hts⟩ (cz_X12_see l D cA L T r hG hLA.1 σ_5 ρ_6 hB.2.1 _ h0 mh0 th0 bt hbt mbt tbt) (cV hts mv_X12_see mw_6_134 rfl rfl ⟨Nat.le_of_ble_eq_true rfl, Nat.le_of_ble_eq_true rfl⟩) (pV hB.1 hK hN mh0 th0 (show shp cA 12 _ _ _ = .inr (12, Fs12 _ _ _) from rfl) rfl) rfl rfl hl.1 rfl (lv_room (Nat.le_of_ble_eq_true rfl)) dX12_compare_10 ⟨Nat.le_of_ble_eq_true rfl, Nat.le_of_ble_eq_true rfl⟩) hLA hA hB hS (by decide) (fun x_22 σ_20 ρ_21 H locs hB fσ_20 pσ_20 hS => ?_)
    obtain ⟨g_23, g_24, g_25, g_26⟩ := pσ_20
    have w_27 : 0 ≤ (σ_20 h0 8).toInt ∧ (σ_20 h0 8).toInt ≤ 400 := by have z := hB.2.1 h0 mh0 8; rw [th0] at z; exact z
    obtain ⟨lx_22, ux_22⟩ := g_23
    have k_28 : σ_20 h0 1 = (σ h0 1) := (FR.at fσ_20 th0 (by decide)).trans k_16
    have cq_29 : (σ_20 h0 1).toInt = (σ h0 1).toInt := congrArg Int32.toInt k_28
    have k_30 : σ_20 h0 12 = (σ_5 h0 12) := (FR.at fσ_20 th0 (by decide)).trans rfl
    have cq_31 : (σ_20 h0 12).toInt = (σ_5 h0 12).toInt := congrArg Int32.toInt k_30
    have k_32 : σ_20 bl tx.toNatClampNeg = (σ_5 bl tx.toNatClampNeg) := (FR.at fσ_20 tbl (by simp)).trans rfl
    have cq_33 : (σ_20 bl tx.toNatClampNeg).toInt = (σ_5 bl tx.toNatClampNeg).toInt := congrArg Int32.toInt k_32
    refine lv_istore_n (lv' := [(1, .int x_22), (0, .ref h0)]) hx hb dX12_compare_13 rfl hl (by decide) rfl (fun ls hl => ?_)
    refine lv_aload_n hx hb dX12_compare_14 rfl (lv_at hl 1 rfl) ?_
    refine t_gv hx hb hts hown hK hB mh0 th0 fi_12_8 rfl mw_5_224 dX12_compare_15 ?_
    refine lv_istore_n (lv' := [(2, .int (σ_20 h0 8)), (1, .int x_22), (0, .ref h0)]) hx hb dX12_compare_18 rfl hl (by decide) rfl (fun ls hl => ?_)
    refine lv_iload_n hx hb dX12_compare_19 rfl (lv_at hl 1 rfl) ?_
    refine lv_bipush (v := 60) hx hb dX12_compare_20 (by decide) ?_
    refine lv_icmp_eq (tgt := 44) hx hb dX12_compare_22 (by decide) (fun c_34 => ?_) (fun c_34 => ?_)
    · skip
      have uc_34 := i_eq (n := 60) (by decide) c_34
      refine lv_aload_n hx hb dX12_compare_44 rfl (lv_at hl 2 rfl) ?_
      refine lv_dup hx hb dX12_compare_45 rfl ?_
      refine t_gv hx hb hts hown hK hB mh0 th0 fi_12_8 rfl mw_5_224 dX12_compare_46 ?_
      refine lv_iconst (v := 1) hx hb dX12_compare_49 (by decide) ?_
      refine lv_iadd hx hb dX12_compare_50 ?_
      refine lv_topi (fun x_35 ex_35 => ?_)
      have vx_35 := b_add (rfl : (σ_20 h0 8).toInt = _) (by decide : (1 : Int32).toInt = 1) ex_35 (by omega) (by omega)
      refine t_pi hx hb hts hown hK hLA hB hS mh0 th0 fi_12_8 rfl rfl rfl (by first | omega | (subst_vars; omega)) (by first | omega | (subst_vars; omega)) (Or.inl (by decide)) mw_5_224 dX12_compare_51 (fun H locs σ_36 eσ_36 hB hS => ?_)
      have k_37 : σ_36 h0 8 = x_35 := by rw [eσ_36]; exact up2_same _ _ _ _
      refine lv_iload_n hx hb dX12_compare_54 rfl (lv_at hl 1 rfl) ?_
      refine lv_bipush (v := 61) hx hb dX12_compare_55 (by decide) ?_
      refine lv_icmp_eq (tgt := 89) hx hb dX12_compare_57 (by decide) (fun c_38 => ?_) (fun c_38 => ?_)
      · skip
        have uc_38 := i_eq (n := 61) (by decide) c_38
        exfalso; omega
      · skip
        have uc_38 := i_ne (n := 61) (by decide) c_38
        refine lv_aload_n hx hb dX12_compare_60 rfl (lv_at hl 2 rfl) ?_
        refine t_gv hx hb hts hown hK hB mh0 th0 fi_12_8 k_37 mw_5_224 dX12_compare_61 ?_
        refine lv_aload_n hx hb dX12_compare_64 rfl (lv_at hl 2 rfl) ?_
        have k_39 : σ_36 h0 1 = (σ h0 1) := by rw [eσ_36, up2_nej _ _ (by decide)]; exact k_28
        refine t_gv hx hb hts hown hK hB mh0 th0 fi_12_1 k_39 mw_5_217 dX12_compare_65 ?_
        refine lv_icmp_ge (tgt := 89) hx hb dX12_compare_68 (by decide) (fun c_40 => ?_) (fun c_40 => ?_)
        · skip
          have uc_40 := j_le c_40
          refine lv_iconst (v := 0) hx hb dX12_compare_89 (by decide) ?_
          refine lv_istore_n (lv' := [(3, .int 0), (2, .int (σ_20 h0 8)), (1, .int x_22), (0, .ref h0)]) hx hb dX12_compare_90 rfl hl (by decide) rfl (fun ls hl => ?_)
          refine lv_iload_n hx hb dX12_compare_91 rfl (lv_at hl 0 rfl) ?_
          refine lv_if_eq (tgt := 105) hx hb dX12_compare_92 (by decide) (fun _ => ?_) (fun c9 => absurd (by decide) c9)
          refine lv_aload_n hx hb dX12_compare_105 rfl (lv_at hl 3 rfl) ?_
          refine lv_iload_n hx hb dX12_compare_106 rfl (lv_at hl 1 rfl) ?_
          have cq_41 : (σ_36 h0 8).toInt = x_35.toInt := congrArg Int32.toInt k_37
          have cq_42 : (σ_36 h0 1).toInt = (σ h0 1).toInt := congrArg Int32.toInt k_39
          have k_43 : σ_36 h0 12 = (σ_5 h0 12) := by rw [eσ_36, up2_nej _ _ (by decide)]; exact k_30
          have cq_44 : (σ_36 h0 12).toInt = (σ_5 h0 12).toInt := congrArg Int32.toInt k_43
          have k_45 : σ_36 bl tx.toNatClampNeg = (σ_5 bl tx.toNatClampNeg) := by rw [eσ_36, up2_nea _ _ (tg_ne tbl th0 (by decide))]; exact k_32
          have cq_46 : (σ_36 bl tx.toNatClampNeg).toInt = (σ_5 bl tx.toNatClampNeg).toInt := congrArg Int32.toInt k_45
          refine t_ci (va_runV (As := [.int (σ_20 h0 8)]) (rest := []) ⟨hx, hb, hml, hown, hts⟩ (cz_X12_makes l D cA L T r hG hLA.1 σ_36 ρ_21 hB.2.1 _ h0 mh0 th0 ((σ_20 h0 8)) (by first | omega | decide) (by first | omega | decide)) (cV hts mv_X12_makes mw_6_229 rfl rfl ⟨Nat.le_of_ble_eq_true rfl, Nat.le_of_ble_eq_true rfl⟩) (pV hB.1 hK hN mh0 th0 (show shp cA 12 _ _ _ = .inr (12, Fs12 _ _ _) from rfl) rfl) rfl rfl hl.1 rfl (lv_room (Nat.le_of_ble_eq_true rfl)) dX12_compare_107 ⟨Nat.le_of_ble_eq_true rfl, Nat.le_of_ble_eq_true rfl⟩) hLA hA hB hS (by decide) (fun x_49 σ_47 ρ_48 H locs hB fσ_47 pσ_47 hS => ?_)
          obtain ⟨g_50, g_51⟩ := pσ_47
          have w_52 : 0 ≤ (σ_47 h0 12).toInt ∧ (σ_47 h0 12).toInt ≤ 60 := by have z := hB.2.1 h0 mh0 12; rw [th0] at z; exact z
          obtain ⟨lx_49, ux_49⟩ := g_50
          have k_53 : σ_47 h0 8 = x_35 := (FR.at fσ_47 th0 (by decide)).trans k_37
          have cq_54 : (σ_47 h0 8).toInt = x_35.toInt := congrArg Int32.toInt k_53
          have k_55 : σ_47 h0 1 = (σ h0 1) := (FR.at fσ_47 th0 (by decide)).trans k_39
          have cq_56 : (σ_47 h0 1).toInt = (σ h0 1).toInt := congrArg Int32.toInt k_55
          have k_57 : σ_47 bl tx.toNatClampNeg = (σ_5 bl tx.toNatClampNeg) := (FR.at fσ_47 tbl (by simp)).trans k_45
          have cq_58 : (σ_47 bl tx.toNatClampNeg).toInt = (σ_5 bl tx.toNatClampNeg).toInt := congrArg Int32.toInt k_57
          refine lv_if_ne (tgt := 115) hx hb dX12_compare_110 (by decide) (fun c_59 => ?_) (fun c_59 => ?_)
          · skip
            have uc_59 := i_ne (n := 0) (by decide) c_59
            refine lv_iload_n hx hb dX12_compare_115 rfl (lv_at hl 2 rfl) ?_
            refine lv_bipush (v := 60) hx hb dX12_compare_116 (by decide) ?_
            refine lv_icmp_ne (tgt := 133) hx hb dX12_compare_118 (by decide) (fun c_60 => ?_) (fun c_60 => ?_)
            · skip
              have uc_60 := i_ne (n := 60) (by decide) c_60
              exfalso; omega
            · skip
              have uc_60 := i_eq (n := 60) (by decide) c_60
              refine lv_iload_n hx hb dX12_compare_121 rfl (lv_at hl 0 rfl) ?_
              refine lv_if_eq (tgt := 129) hx hb dX12_compare_122 (by decide) (fun _ => ?_) (fun c9 => absurd (by decide) c9)
              refine lv_iconst (v := 0) hx hb dX12_compare_129 (by decide) ?_
              refine lv_goto (tgt := 152) hx hb dX12_compare_130 (by decide) ?_
              refine lv_istore (lv' := [(4, .int 0), (3, .int 0), (2, .int (σ_20 h0 8)), (1, .int x_22), (0, .ref h0)]) hx hb dX12_compare_152 hl (by decide) rfl (fun ls hl => ?_)
              refine lv_aload_n hx hb dX12_compare_154 rfl (lv_at hl 4 rfl) ?_
              have k_62 := FR.row fσ_20 tbg (fun j => by simp)
              have k_63a := congrFun eσ_36 bg
              rw [up2_row _ _ (tg_ne tbg th0 (by decide))] at k_63a
              have k_64 := FR.row fσ_47 tbg (fun j => by simp)
              have k_65 := FR.row fσ_20 tbl (fun j => by simp)
              have k_66a := congrFun eσ_36 bl
              rw [up2_row _ _ (tg_ne tbl th0 (by decide))] at k_66a
              have k_67 := FR.row fσ_47 tbl (fun j => by simp)
              have R_61 : RLx σ σ_47 h0 bg bl tx 1 1 := RLx.fr 1 R_19 ((k_64).trans ((k_63a).trans (k_62))) ((k_67).trans ((k_66a).trans (k_65))) (by omega) (by rw [k_53]; omega)
              have R_61n := R_61.2.1
              have k_68 : σ_5 h0 11 = tx := (FR.at fσ_5 th0 (by decide)).trans k0
              have k_69 : σ_20 h0 11 = tx := (FR.at fσ_20 th0 (by decide)).trans k_68
              have k_70 : σ_36 h0 11 = tx := by rw [eσ_36, up2_nej _ _ (by decide)]; exact k_69
              have k_71 : σ_47 h0 11 = tx := (FR.at fσ_47 th0 (by decide)).trans k_70
              refine t_ci (va_runV (As := []) (rest := []) ⟨hx, hb, hml, hown, hts⟩ (cz_X12_sum l D cA L T r hG hLA.1 σ_47 ρ_48 hB.2.1 _ h0 mh0 th0 bt hbt mbt tbt bg hbg mbg tbg bl hbl mbl tbl tx k_71 (by first | omega | decide) (by first | omega | decide) (by omega)) (cV hts mv_X12_sum mw_6_216 rfl rfl ⟨Nat.le_of_ble_eq_true rfl, Nat.le_of_ble_eq_true rfl⟩) (pV hB.1 hK hN mh0 th0 (show shp cA 12 _ _ _ = .inr (12, Fs12 _ _ _) from rfl) rfl) rfl rfl hl.1 rfl (lv_room (Nat.le_of_ble_eq_true rfl)) dX12_compare_155 ⟨Nat.le_of_ble_eq_true rfl, Nat.le_of_ble_eq_true rfl⟩) hLA hA hB hS (by decide) (fun x_74 σ_72 ρ_73 H locs hB fσ_72 pσ_72 hS => ?_)
              obtain ⟨g_75, g_76, g_77, g_78⟩ := pσ_72
              have w_79 : 0 ≤ (σ_72 bl tx.toNatClampNeg).toInt ∧ (σ_72 bl tx.toNatClampNeg).toInt ≤ 400 := by have z := hB.2.1 bl mbl tx.toNatClampNeg; rw [tbl] at z; exact z
              have w_80 : 0 ≤ (σ_72 h0 8).toInt ∧ (σ_72 h0 8).toInt ≤ 400 := by have z := hB.2.1 h0 mh0 8; rw [th0] at z; exact z
              have w_81 : 0 ≤ (σ_72 h0 12).toInt ∧ (σ_72 h0 12).toInt ≤ 60 := by have z := hB.2.1 h0 mh0 12; rw [th0] at z; exact z
              have k_82 := FR.row fσ_20 tbg (fun j => by simp)
              have k_83a := congrFun eσ_36 bg
              rw [up2_row _ _ (tg_ne tbg th0 (by decide))] at k_83a
              have k_84 := FR.row fσ_47 tbg (fun j => by simp)
              have k_85 := FR.row fσ_20 tbl (fun j => by simp)
              have k_86a := congrFun eσ_36 bl
              rw [up2_row _ _ (tg_ne tbl th0 (by decide))] at k_86a
              have k_87 := FR.row fσ_47 tbl (fun j => by simp)
              have ex_88 : EX (σ bg) (σ bl) (σ_47 bg) (σ_47 bl) tx := by rw [((k_84).trans ((k_83a).trans (k_82))), ((k_87).trans ((k_86a).trans (k_85)))]; exact ex_15
              have ex_89 := EX.tr ex_88 g_77
              obtain ⟨lx_74, ux_74⟩ := g_75
              have k_90 : σ_72 h0 1 = (σ h0 1) := (FR.at fσ_72 th0 (by decide)).trans k_55
              have cq_91 : (σ_72 h0 1).toInt = (σ h0 1).toInt := congrArg Int32.toInt k_90
              refine lv_if_ne (tgt := 163) hx hb dX12_compare_158 (by decide) (fun c_92 => ?_) (fun c_92 => ?_)
              · skip
                have uc_92 := i_ne (n := 0) (by decide) c_92
                have R_93 : RLx σ σ_72 h0 bg bl tx 2 1 := RLx.tr R_61 (g_78 (by omega))
                have R_93n := R_93.2.1
                refine lv_aload_n hx hb dX12_compare_163 rfl (lv_at hl 4 rfl) ?_
                refine lv_bipush (v := 6) hx hb dX12_compare_164 (by decide) ?_
                refine lv_iload hx hb dX12_compare_166 (lv_at hl 0 rfl) ?_
                refine lv_iadd hx hb dX12_compare_168 ?_
                refine tp_i (w := 6) (by decide) ?_
                refine lv_iconst (v := 0) hx hb dX12_compare_169 (by decide) ?_
                have hPL6 : 0 ≤ (σ_72 bl tx.toNatClampNeg).toInt := (by omega)
                have k_94 : σ_72 h0 11 = tx := (FR.at fσ_72 th0 (by decide)).trans k_71
                refine t_cv (va_runV (As := [.int 6, .int 0]) (rest := []) ⟨hx, hb, hml, hown, hts⟩ (cz_X12_puts l D cA L T r hG hLA.1 σ_72 ρ_73 hB.2.1 _ h0 mh0 th0 6 0 bg hbg mbg tbg bl hbl mbl tbl tx k_94 (by first | omega | decide) (by first | omega | decide) (by omega)) (cV hts mv_X12_puts mw_6_233 rfl rfl ⟨Nat.le_of_ble_eq_true rfl, Nat.le_of_ble_eq_true rfl⟩) (pV hB.1 hK hN mh0 th0 (show shp cA 12 _ _ _ = .inr (12, Fs12 _ _ _) from rfl) rfl) rfl rfl hl.1 rfl (lv_room (Nat.le_of_ble_eq_true rfl)) dX12_compare_170 ⟨Nat.le_of_ble_eq_true rfl, Nat.le_of_ble_eq_true rfl⟩) hLA hA hB hS (by decide) (fun σ_95 ρ_96 H locs hB fσ_95 pσ_95 hS => ?_)
                have w_98 : 0 ≤ (σ_95 bl tx.toNatClampNeg).toInt ∧ (σ_95 bl tx.toNatClampNeg).toInt ≤ 400 := by have z := hB.2.1 bl mbl tx.toNatClampNeg; rw [tbl] at z; exact z
                have k_99 : σ_95 h0 8 = (σ_72 h0 8) := (FR.at fσ_95 th0 (by decide)).trans rfl
                have cq_100 : (σ_95 h0 8).toInt = (σ_72 h0 8).toInt := congrArg Int32.toInt k_99
                have k_101 : σ_95 h0 1 = (σ h0 1) := (FR.at fσ_95 th0 (by decide)).trans k_90
                have cq_102 : (σ_95 h0 1).toInt = (σ h0 1).toInt := congrArg Int32.toInt k_101
                have k_103 : σ_95 h0 12 = (σ_72 h0 12) := (FR.at fσ_95 th0 (by decide)).trans rfl
                have cq_104 : (σ_95 h0 12).toInt = (σ_72 h0 12).toInt := congrArg Int32.toInt k_103
                have ex_105 := EX.tr ex_89 (PU.ex pσ_95 (by have z := hPL6; omega))
                have R_106 : RLx σ σ_95 h0 bg bl tx 1 0 := RLx.bin (k := 0) (s := 0) R_93 pσ_95 (by have z := hPL6; omega) (FR.at fσ_95 th0 (by decide)) (FR.at fσ_95 th0 (by decide)) (stp_bin (by decide))
                have R_106n := R_106.2.1
                refine lv_iconst (v := 1) hx hb dX12_compare_173 (by decide) ?_
                exact W.zret (v := 1) hx hb hr rfl (fun t ht hW => ⟨⟨1, (σ_95, ρ_96), rfl, ⟨hB.2.1, hB.2.2, ⟨(show 0 ≤ (1 : Int32).toInt ∧ (1 : Int32).toInt ≤ 1 from ⟨by decide, by decide⟩), (show (σ h0 8).toInt ≤ (σ_95 h0 8).toInt from (by rw [k_99]; omega)), (show EX (σ bg) (σ bl) (σ_95 bg) (σ_95 bl) tx from ex_105), (show (1 : Int32).toInt = 1 → RLx σ σ_95 h0 bg bl tx 1 0 from (fun h => R_106))⟩⟩, (show TP D cA L T r σ_95 ρ_96 t.heap from by rw [ht]; exact hB.1)⟩, hS.F ht⟩) hS.2.2 dX12_compare_174
              · skip
                have uc_92 := i_eq (n := 0) (by decide) c_92
                refine lv_iconst (v := 0) hx hb dX12_compare_161 (by decide) ?_
                exact W.zret (v := 0) hx hb hr rfl (fun t ht hW => ⟨⟨0, (σ_72, ρ_73), rfl, ⟨hB.2.1, hB.2.2, ⟨(show 0 ≤ (0 : Int32).toInt ∧ (0 : Int32).toInt ≤ 1 from ⟨by decide, by decide⟩), (show (σ h0 8).toInt ≤ (σ_72 h0 8).toInt from (by omega)), (show EX (σ bg) (σ bl) (σ_72 bg) (σ_72 bl) tx from ex_89), (show (0 : Int32).toInt = 1 → RLx σ σ_72 h0 bg bl tx 1 0 from (fun h => absurd h (by decide)))⟩⟩, (show TP D cA L T r σ_72 ρ_73 t.heap from by rw [ht]; exact hB.1)⟩, hS.F ht⟩) hS.2.2 dX12_compare_162
          · skip
            have uc_59 := i_eq (n := 0) (by decide) c_59
            refine lv_iconst (v := 0) hx hb dX12_compare_113 (by decide) ?_
            have k_107 := FR.row fσ_20 tbg (fun j => by simp)
            have k_108a := congrFun eσ_36 bg
            rw [up2_row _ _ (tg_ne tbg th0 (by decide))] at k_108a
            have k_109 := FR.row fσ_47 tbg (fun j => by simp)
            have k_110 := FR.row fσ_20 tbl (fun j => by simp)
            have k_111a := congrFun eσ_36 bl
            rw [up2_row _ _ (tg_ne tbl th0 (by decide))] at k_111a
            have k_112 := FR.row fσ_47 tbl (fun j => by simp)
            have ex_113 : EX (σ bg) (σ bl) (σ_47 bg) (σ_47 bl) tx := by rw [((k_109).trans ((k_108a).trans (k_107))), ((k_112).trans ((k_111a).trans (k_110)))]; exact ex_15
            exact W.zret (v := 0) hx hb hr rfl (fun t ht hW => ⟨⟨0, (σ_47, ρ_48), rfl, ⟨hB.2.1, hB.2.2, ⟨(show 0 ≤ (0 : Int32).toInt ∧ (0 : Int32).toInt ≤ 1 from ⟨by decide, by decide⟩), (show (σ h0 8).toInt ≤ (σ_47 h0 8).toInt from (by rw [k_53]; omega)), (show EX (σ bg) (σ bl) (σ_47 bg) (σ_47 bl) tx from ex_113), (show (0 : Int32).toInt = 1 → RLx σ σ_47 h0 bg bl tx 1 0 from (fun h => absurd h (by decide)))⟩⟩, (show TP D cA L T r σ_47 ρ_48 t.heap from by rw [ht]; exact hB.1)⟩, hS.F ht⟩) hS.2.2 dX12_compare_114
        · skip
          have uc_40 := j_nle c_40
          refine lv_aload_n hx hb dX12_compare_71 rfl (lv_at hl 2 rfl) ?_
          refine t_gk hx hb hts hown hK hB mh0 th0 fq_12_0 hbt mw_5_216 dX12_compare_72 ?_
          refine lv_aload_n hx hb dX12_compare_75 rfl (lv_at hl 2 rfl) ?_
          refine t_gv hx hb hts hown hK hB mh0 th0 fi_12_8 k_37 mw_5_224 dX12_compare_76 ?_
          refine t_ab hx hb hK hB mbt tbt ai_61 (fun _ => rfl) (i_in (by omega) (by omega)) dX12_compare_79 (fun x_114 ex_114 lx_114 ux_114 => ?_)
          have cx_114 := congrArg Int32.toInt ex_114
          refine lv_bipush (v := 61) hx hb dX12_compare_80 (by decide) ?_
          refine lv_icmp_ne (tgt := 89) hx hb dX12_compare_82 (by decide) (fun c_115 => ?_) (fun c_115 => ?_)
          · skip
            have uc_115 := i_ne (n := 61) (by decide) c_115
            refine lv_iconst (v := 0) hx hb dX12_compare_89 (by decide) ?_
            refine lv_istore_n (lv' := [(3, .int 0), (2, .int (σ_20 h0 8)), (1, .int x_22), (0, .ref h0)]) hx hb dX12_compare_90 rfl hl (by decide) rfl (fun ls hl => ?_)
            refine lv_iload_n hx hb dX12_compare_91 rfl (lv_at hl 0 rfl) ?_
            refine lv_if_eq (tgt := 105) hx hb dX12_compare_92 (by decide) (fun _ => ?_) (fun c9 => absurd (by decide) c9)
            refine lv_aload_n hx hb dX12_compare_105 rfl (lv_at hl 3 rfl) ?_
            refine lv_iload_n hx hb dX12_compare_106 rfl (lv_at hl 1 rfl) ?_
            have cq_116 : (σ_36 h0 8).toInt = x_35.toInt := congrArg Int32.toInt k_37
            have cq_117 : (σ_36 h0 1).toInt = (σ h0 1).toInt := congrArg Int32.toInt k_39
            have k_118 : σ_36 h0 12 = (σ_5 h0 12) := by rw [eσ_36, up2_nej _ _ (by decide)]; exact k_30
            have cq_119 : (σ_36 h0 12).toInt = (σ_5 h0 12).toInt := congrArg Int32.toInt k_118
            have k_120 : σ_36 bl tx.toNatClampNeg = (σ_5 bl tx.toNatClampNeg) := by rw [eσ_36, up2_nea _ _ (tg_ne tbl th0 (by decide))]; exact k_32
            have cq_121 : (σ_36 bl tx.toNatClampNeg).toInt = (σ_5 bl tx.toNatClampNeg).toInt := congrArg Int32.toInt k_120
            refine t_ci (va_runV (As := [.int (σ_20 h0 8)]) (rest := []) ⟨hx, hb, hml, hown, hts⟩ (cz_X12_makes l D cA L T r hG hLA.1 σ_36 ρ_21 hB.2.1 _ h0 mh0 th0 ((σ_20 h0 8)) (by first | omega | decide) (by first | omega | decide)) (cV hts mv_X12_makes mw_6_229 rfl rfl ⟨Nat.le_of_ble_eq_true rfl, Nat.le_of_ble_eq_true rfl⟩) (pV hB.1 hK hN mh0 th0 (show shp cA 12 _ _ _ = .inr (12, Fs12 _ _ _) from rfl) rfl) rfl rfl hl.1 rfl (lv_room (Nat.le_of_ble_eq_true rfl)) dX12_compare_107 ⟨Nat.le_of_ble_eq_true rfl, Nat.le_of_ble_eq_true rfl⟩) hLA hA hB hS (by decide) (fun x_124 σ_122 ρ_123 H locs hB fσ_122 pσ_122 hS => ?_)
            obtain ⟨g_125, g_126⟩ := pσ_122
            have w_127 : 0 ≤ (σ_122 h0 12).toInt ∧ (σ_122 h0 12).toInt ≤ 60 := by have z := hB.2.1 h0 mh0 12; rw [th0] at z; exact z
            obtain ⟨lx_124, ux_124⟩ := g_125
            have k_128 : σ_122 h0 8 = x_35 := (FR.at fσ_122 th0 (by decide)).trans k_37
            have cq_129 : (σ_122 h0 8).toInt = x_35.toInt := congrArg Int32.toInt k_128
            have k_130 : σ_122 h0 1 = (σ h0 1) := (FR.at fσ_122 th0 (by decide)).trans k_39
            have cq_131 : (σ_122 h0 1).toInt = (σ h0 1).toInt := congrArg Int32.toInt k_130
            have k_132 : σ_122 bl tx.toNatClampNeg = (σ_5 bl tx.toNatClampNeg) := (FR.at fσ_122 tbl (by simp)).trans k_120
            have cq_133 : (σ_122 bl tx.toNatClampNeg).toInt = (σ_5 bl tx.toNatClampNeg).toInt := congrArg Int32.toInt k_132
            refine lv_if_ne (tgt := 115) hx hb dX12_compare_110 (by decide) (fun c_134 => ?_) (fun c_134 => ?_)
            · skip
              have uc_134 := i_ne (n := 0) (by decide) c_134
              refine lv_iload_n hx hb dX12_compare_115 rfl (lv_at hl 2 rfl) ?_
              refine lv_bipush (v := 60) hx hb dX12_compare_116 (by decide) ?_
              refine lv_icmp_ne (tgt := 133) hx hb dX12_compare_118 (by decide) (fun c_135 => ?_) (fun c_135 => ?_)
              · skip
                have uc_135 := i_ne (n := 60) (by decide) c_135
                exfalso; omega
              · skip
                have uc_135 := i_eq (n := 60) (by decide) c_135
                refine lv_iload_n hx hb dX12_compare_121 rfl (lv_at hl 0 rfl) ?_
                refine lv_if_eq (tgt := 129) hx hb dX12_compare_122 (by decide) (fun _ => ?_) (fun c9 => absurd (by decide) c9)
                refine lv_iconst (v := 0) hx hb dX12_compare_129 (by decide) ?_
                refine lv_goto (tgt := 152) hx hb dX12_compare_130 (by decide) ?_
                refine lv_istore (lv' := [(4, .int 0), (3, .int 0), (2, .int (σ_20 h0 8)), (1, .int x_22), (0, .ref h0)]) hx hb dX12_compare_152 hl (by decide) rfl (fun ls hl => ?_)
                refine lv_aload_n hx hb dX12_compare_154 rfl (lv_at hl 4 rfl) ?_
                have k_137 := FR.row fσ_20 tbg (fun j => by simp)
                have k_138a := congrFun eσ_36 bg
                rw [up2_row _ _ (tg_ne tbg th0 (by decide))] at k_138a
                have k_139 := FR.row fσ_122 tbg (fun j => by simp)
                have k_140 := FR.row fσ_20 tbl (fun j => by simp)
                have k_141a := congrFun eσ_36 bl
                rw [up2_row _ _ (tg_ne tbl th0 (by decide))] at k_141a
                have k_142 := FR.row fσ_122 tbl (fun j => by simp)
                have R_136 : RLx σ σ_122 h0 bg bl tx 1 1 := RLx.fr 1 R_19 ((k_139).trans ((k_138a).trans (k_137))) ((k_142).trans ((k_141a).trans (k_140))) (by omega) (by rw [k_128]; omega)
                have R_136n := R_136.2.1
                have k_143 : σ_5 h0 11 = tx := (FR.at fσ_5 th0 (by decide)).trans k0
                have k_144 : σ_20 h0 11 = tx := (FR.at fσ_20 th0 (by decide)).trans k_143
                have k_145 : σ_36 h0 11 = tx := by rw [eσ_36, up2_nej _ _ (by decide)]; exact k_144
                have k_146 : σ_122 h0 11 = tx := (FR.at fσ_122 th0 (by decide)).trans k_145
                refine t_ci (va_runV (As := []) (rest := []) ⟨hx, hb, hml, hown, hts⟩ (cz_X12_sum l D cA L T r hG hLA.1 σ_122 ρ_123 hB.2.1 _ h0 mh0 th0 bt hbt mbt tbt bg hbg mbg tbg bl hbl mbl tbl tx k_146 (by first | omega | decide) (by first | omega | decide) (by omega)) (cV hts mv_X12_sum mw_6_216 rfl rfl ⟨Nat.le_of_ble_eq_true rfl, Nat.le_of_ble_eq_true rfl⟩) (pV hB.1 hK hN mh0 th0 (show shp cA 12 _ _ _ = .inr (12, Fs12 _ _ _) from rfl) rfl) rfl rfl hl.1 rfl (lv_room (Nat.le_of_ble_eq_true rfl)) dX12_compare_155 ⟨Nat.le_of_ble_eq_true rfl, Nat.le_of_ble_eq_true rfl⟩) hLA hA hB hS (by decide) (fun x_149 σ_147 ρ_148 H locs hB fσ_147 pσ_147 hS => ?_)
                obtain ⟨g_150, g_151, g_152, g_153⟩ := pσ_147
                have w_154 : 0 ≤ (σ_147 bl tx.toNatClampNeg).toInt ∧ (σ_147 bl tx.toNatClampNeg).toInt ≤ 400 := by have z := hB.2.1 bl mbl tx.toNatClampNeg; rw [tbl] at z; exact z
                have w_155 : 0 ≤ (σ_147 h0 8).toInt ∧ (σ_147 h0 8).toInt ≤ 400 := by have z := hB.2.1 h0 mh0 8; rw [th0] at z; exact z
                have w_156 : 0 ≤ (σ_147 h0 12).toInt ∧ (σ_147 h0 12).toInt ≤ 60 := by have z := hB.2.1 h0 mh0 12; rw [th0] at z; exact z
                have k_157 := FR.row fσ_20 tbg (fun j => by simp)
                have k_158a := congrFun eσ_36 bg
                rw [up2_row _ _ (tg_ne tbg th0 (by decide))] at k_158a
                have k_159 := FR.row fσ_122 tbg (fun j => by simp)
                have k_160 := FR.row fσ_20 tbl (fun j => by simp)
                have k_161a := congrFun eσ_36 bl
                rw [up2_row _ _ (tg_ne tbl th0 (by decide))] at k_161a
                have k_162 := FR.row fσ_122 tbl (fun j => by simp)
                have ex_163 : EX (σ bg) (σ bl) (σ_122 bg) (σ_122 bl) tx := by rw [((k_159).trans ((k_158a).trans (k_157))), ((k_162).trans ((k_161a).trans (k_160)))]; exact ex_15
                have ex_164 := EX.tr ex_163 g_152
                obtain ⟨lx_149, ux_149⟩ := g_150
                have k_165 : σ_147 h0 1 = (σ h0 1) := (FR.at fσ_147 th0 (by decide)).trans k_130
                have cq_166 : (σ_147 h0 1).toInt = (σ h0 1).toInt := congrArg Int32.toInt k_165
                refine lv_if_ne (tgt := 163) hx hb dX12_compare_158 (by decide) (fun c_167 => ?_) (fun c_167 => ?_)
                · skip
                  have uc_167 := i_ne (n := 0) (by decide) c_167
                  have R_168 : RLx σ σ_147 h0 bg bl tx 2 1 := RLx.tr R_136 (g_153 (by omega))
                  have R_168n := R_168.2.1
                  refine lv_aload_n hx hb dX12_compare_163 rfl (lv_at hl 4 rfl) ?_
                  refine lv_bipush (v := 6) hx hb dX12_compare_164 (by decide) ?_
                  refine lv_iload hx hb dX12_compare_166 (lv_at hl 0 rfl) ?_
                  refine lv_iadd hx hb dX12_compare_168 ?_
                  refine tp_i (w := 6) (by decide) ?_
                  refine lv_iconst (v := 0) hx hb dX12_compare_169 (by decide) ?_
                  have hPL6 : 0 ≤ (σ_147 bl tx.toNatClampNeg).toInt := (by omega)
                  have k_169 : σ_147 h0 11 = tx := (FR.at fσ_147 th0 (by decide)).trans k_146
                  refine t_cv (va_runV (As := [.int 6, .int 0]) (rest := []) ⟨hx, hb, hml, hown, hts⟩ (cz_X12_puts l D cA L T r hG hLA.1 σ_147 ρ_148 hB.2.1 _ h0 mh0 th0 6 0 bg hbg mbg tbg bl hbl mbl tbl tx k_169 (by first | omega | decide) (by first | omega | decide) (by omega)) (cV hts mv_X12_puts mw_6_233 rfl rfl ⟨Nat.le_of_ble_eq_true rfl, Nat.le_of_ble_eq_true rfl⟩) (pV hB.1 hK hN mh0 th0 (show shp cA 12 _ _ _ = .inr (12, Fs12 _ _ _) from rfl) rfl) rfl rfl hl.1 rfl (lv_room (Nat.le_of_ble_eq_true rfl)) dX12_compare_170 ⟨Nat.le_of_ble_eq_true rfl, Nat.le_of_ble_eq_true rfl⟩) hLA hA hB hS (by decide) (fun σ_170 ρ_171 H locs hB fσ_170 pσ_170 hS => ?_)
                  have w_173 : 0 ≤ (σ_170 bl tx.toNatClampNeg).toInt ∧ (σ_170 bl tx.toNatClampNeg).toInt ≤ 400 := by have z := hB.2.1 bl mbl tx.toNatClampNeg; rw [tbl] at z; exact z
                  have k_174 : σ_170 h0 8 = (σ_147 h0 8) := (FR.at fσ_170 th0 (by decide)).trans rfl
                  have cq_175 : (σ_170 h0 8).toInt = (σ_147 h0 8).toInt := congrArg Int32.toInt k_174
                  have k_176 : σ_170 h0 1 = (σ h0 1) := (FR.at fσ_170 th0 (by decide)).trans k_165
                  have cq_177 : (σ_170 h0 1).toInt = (σ h0 1).toInt := congrArg Int32.toInt k_176
                  have k_178 : σ_170 h0 12 = (σ_147 h0 12) := (FR.at fσ_170 th0 (by decide)).trans rfl
                  have cq_179 : (σ_170 h0 12).toInt = (σ_147 h0 12).toInt := congrArg Int32.toInt k_178
                  have ex_180 := EX.tr ex_164 (PU.ex pσ_170 (by have z := hPL6; omega))
                  have R_181 : RLx σ σ_170 h0 bg bl tx 1 0 := RLx.bin (k := 0) (s := 0) R_168 pσ_170 (by have z := hPL6; omega) (FR.at fσ_170 th0 (by decide)) (FR.at fσ_170 th0 (by decide)) (stp_bin (by decide))
                  have R_181n := R_181.2.1
                  refine lv_iconst (v := 1) hx hb dX12_compare_173 (by decide) ?_
                  exact W.zret (v := 1) hx hb hr rfl (fun t ht hW => ⟨⟨1, (σ_170, ρ_171), rfl, ⟨hB.2.1, hB.2.2, ⟨(show 0 ≤ (1 : Int32).toInt ∧ (1 : Int32).toInt ≤ 1 from ⟨by decide, by decide⟩), (show (σ h0 8).toInt ≤ (σ_170 h0 8).toInt from (by rw [k_174]; omega)), (show EX (σ bg) (σ bl) (σ_170 bg) (σ_170 bl) tx from ex_180), (show (1 : Int32).toInt = 1 → RLx σ σ_170 h0 bg bl tx 1 0 from (fun h => R_181))⟩⟩, (show TP D cA L T r σ_170 ρ_171 t.heap from by rw [ht]; exact hB.1)⟩, hS.F ht⟩) hS.2.2 dX12_compare_174
                · skip
                  have uc_167 := i_eq (n := 0) (by decide) c_167
                  refine lv_iconst (v := 0) hx hb dX12_compare_161 (by decide) ?_
                  exact W.zret (v := 0) hx hb hr rfl (fun t ht hW => ⟨⟨0, (σ_147, ρ_148), rfl, ⟨hB.2.1, hB.2.2, ⟨(show 0 ≤ (0 : Int32).toInt ∧ (0 : Int32).toInt ≤ 1 from ⟨by decide, by decide⟩), (show (σ h0 8).toInt ≤ (σ_147 h0 8).toInt from (by omega)), (show EX (σ bg) (σ bl) (σ_147 bg) (σ_147 bl) tx from ex_164), (show (0 : Int32).toInt = 1 → RLx σ σ_147 h0 bg bl tx 1 0 from (fun h => absurd h (by decide)))⟩⟩, (show TP D cA L T r σ_147 ρ_148 t.heap from by rw [ht]; exact hB.1)⟩, hS.F ht⟩) hS.2.2 dX12_compare_162
            · skip
              have uc_134 := i_eq (n := 0) (by decide) c_134
              refine lv_iconst (v := 0) hx hb dX12_compare_113 (by decide) ?_
              have k_182 := FR.row fσ_20 tbg (fun j => by simp)
              have k_183a := congrFun eσ_36 bg
              rw [up2_row _ _ (tg_ne tbg th0 (by decide))] at k_183a
              have k_184 := FR.row fσ_122 tbg (fun j => by simp)
              have k_185 := FR.row fσ_20 tbl (fun j => by simp)
              have k_186a := congrFun eσ_36 bl
              rw [up2_row _ _ (tg_ne tbl th0 (by decide))] at k_186a
              have k_187 := FR.row fσ_122 tbl (fun j => by simp)
              have ex_188 : EX (σ bg) (σ bl) (σ_122 bg) (σ_122 bl) tx := by rw [((k_184).trans ((k_183a).trans (k_182))), ((k_187).trans ((k_186a).trans (k_185)))]; exact ex_15
              exact W.zret (v := 0) hx hb hr rfl (fun t ht hW => ⟨⟨0, (σ_122, ρ_123), rfl, ⟨hB.2.1, hB.2.2, ⟨(show 0 ≤ (0 : Int32).toInt ∧ (0 : Int32).toInt ≤ 1 from ⟨by decide, by decide⟩), (show (σ h0 8).toInt ≤ (σ_122 h0 8).toInt from (by rw [k_128]; omega)), (show EX (σ bg) (σ bl) (σ_122 bg) (σ_122 bl) tx from ex_188), (show (0 : Int32).toInt = 1 → RLx σ σ_122 h0 bg bl tx 1 0 from (fun h => absurd h (by decide)))⟩⟩, (show TP D cA L T r σ_122 ρ_123 t.heap from by rw [ht]; exact hB.1)⟩, hS.F ht⟩) hS.2.2 dX12_compare_114
          · skip
            have uc_115 := i_eq (n := 61) (by decide) c_115
            refine lv_iconst (v := 1) hx hb dX12_compare_85 (by decide) ?_
            refine lv_goto (tgt := 90) hx hb dX12_compare_86 (by decide) ?_
            refine lv_istore_n (lv' := [(3, .int 1), (2, .int (σ_20 h0 8)), (1, .int x_22), (0, .ref h0)]) hx hb dX12_compare_90 rfl hl (by decide) rfl (fun ls hl => ?_)
            refine lv_iload_n hx hb dX12_compare_91 rfl (lv_at hl 0 rfl) ?_
            refine lv_if_eq (tgt := 105) hx hb dX12_compare_92 (by decide) (fun c9 => absurd c9 (by decide)) (fun _ => ?_)
            refine lv_aload_n hx hb dX12_compare_95 rfl (lv_at hl 3 rfl) ?_
            refine lv_dup hx hb dX12_compare_96 rfl ?_
            refine t_gv hx hb hts hown hK hB mh0 th0 fi_12_8 k_37 mw_5_224 dX12_compare_97 ?_
            refine lv_iconst (v := 1) hx hb dX12_compare_100 (by decide) ?_
            refine lv_iadd hx hb dX12_compare_101 ?_
            refine lv_topi (fun x_189 ex_189 => ?_)
            have vx_189 := b_add (rfl : x_35.toInt = _) (by decide : (1 : Int32).toInt = 1) ex_189 (by omega) (by omega)
            refine t_pi hx hb hts hown hK hLA hB hS mh0 th0 fi_12_8 rfl rfl rfl (by first | omega | (subst_vars; omega)) (by first | omega | (subst_vars; omega)) (Or.inl (by decide)) mw_5_224 dX12_compare_102 (fun H locs σ_190 eσ_190 hB hS => ?_)
            have k_191 : σ_190 h0 8 = x_189 := by rw [eσ_190]; exact up2_same _ _ _ _
            refine lv_aload_n hx hb dX12_compare_105 rfl (lv_at hl 3 rfl) ?_
            refine lv_iload_n hx hb dX12_compare_106 rfl (lv_at hl 1 rfl) ?_
            have cq_192 : (σ_190 h0 8).toInt = x_189.toInt := congrArg Int32.toInt k_191
            have k_193 : σ_190 h0 1 = (σ h0 1) := by rw [eσ_190, up2_nej _ _ (by decide)]; exact k_39
            have cq_194 : (σ_190 h0 1).toInt = (σ h0 1).toInt := congrArg Int32.toInt k_193
            have k_195 : σ_36 h0 12 = (σ_5 h0 12) := by rw [eσ_36, up2_nej _ _ (by decide)]; exact k_30
            have k_196 : σ_190 h0 12 = (σ_5 h0 12) := by rw [eσ_190, up2_nej _ _ (by decide)]; exact k_195
            have cq_197 : (σ_190 h0 12).toInt = (σ_5 h0 12).toInt := congrArg Int32.toInt k_196
            have k_198 : σ_36 bl tx.toNatClampNeg = (σ_5 bl tx.toNatClampNeg) := by rw [eσ_36, up2_nea _ _ (tg_ne tbl th0 (by decide))]; exact k_32
            have k_199 : σ_190 bl tx.toNatClampNeg = (σ_5 bl tx.toNatClampNeg) := by rw [eσ_190, up2_nea _ _ (tg_ne tbl th0 (by decide))]; exact k_198
            have cq_200 : (σ_190 bl tx.toNatClampNeg).toInt = (σ_5 bl tx.toNatClampNeg).toInt := congrArg Int32.toInt k_199
            refine t_ci (va_runV (As := [.int (σ_20 h0 8)]) (rest := []) ⟨hx, hb, hml, hown, hts⟩ (cz_X12_makes l D cA L T r hG hLA.1 σ_190 ρ_21 hB.2.1 _ h0 mh0 th0 ((σ_20 h0 8)) (by first | omega | decide) (by first | omega | decide)) (cV hts mv_X12_makes mw_6_229 rfl rfl ⟨Nat.le_of_ble_eq_true rfl, Nat.le_of_ble_eq_true rfl⟩) (pV hB.1 hK hN mh0 th0 (show shp cA 12 _ _ _ = .inr (12, Fs12 _ _ _) from rfl) rfl) rfl rfl hl.1 rfl (lv_room (Nat.le_of_ble_eq_true rfl)) dX12_compare_107 ⟨Nat.le_of_ble_eq_true rfl, Nat.le_of_ble_eq_true rfl⟩) hLA hA hB hS (by decide) (fun x_203 σ_201 ρ_202 H locs hB fσ_201 pσ_201 hS => ?_)
            obtain ⟨g_204, g_205⟩ := pσ_201
            have w_206 : 0 ≤ (σ_201 h0 12).toInt ∧ (σ_201 h0 12).toInt ≤ 60 := by have z := hB.2.1 h0 mh0 12; rw [th0] at z; exact z
            obtain ⟨lx_203, ux_203⟩ := g_204
            have k_207 : σ_201 h0 8 = x_189 := (FR.at fσ_201 th0 (by decide)).trans k_191
            have cq_208 : (σ_201 h0 8).toInt = x_189.toInt := congrArg Int32.toInt k_207
            have k_209 : σ_201 h0 1 = (σ h0 1) := (FR.at fσ_201 th0 (by decide)).trans k_193
            have cq_210 : (σ_201 h0 1).toInt = (σ h0 1).toInt := congrArg Int32.toInt k_209
            have k_211 : σ_201 bl tx.toNatClampNeg = (σ_5 bl tx.toNatClampNeg) := (FR.at fσ_201 tbl (by simp)).trans k_199
            have cq_212 : (σ_201 bl tx.toNatClampNeg).toInt = (σ_5 bl tx.toNatClampNeg).toInt := congrArg Int32.toInt k_211
            refine lv_if_ne (tgt := 115) hx hb dX12_compare_110 (by decide) (fun c_213 => ?_) (fun c_213 => ?_)
            · skip
              have uc_213 := i_ne (n := 0) (by decide) c_213
              refine lv_iload_n hx hb dX12_compare_115 rfl (lv_at hl 2 rfl) ?_
              refine lv_bipush (v := 60) hx hb dX12_compare_116 (by decide) ?_
              refine lv_icmp_ne (tgt := 133) hx hb dX12_compare_118 (by decide) (fun c_214 => ?_) (fun c_214 => ?_)
              · skip
                have uc_214 := i_ne (n := 60) (by decide) c_214
                exfalso; omega
              · skip
                have uc_214 := i_eq (n := 60) (by decide) c_214
                refine lv_iload_n hx hb dX12_compare_121 rfl (lv_at hl 0 rfl) ?_
                refine lv_if_eq (tgt := 129) hx hb dX12_compare_122 (by decide) (fun c9 => absurd c9 (by decide)) (fun _ => ?_)
                refine lv_iconst (v := 1) hx hb dX12_compare_125 (by decide) ?_
                refine lv_goto (tgt := 152) hx hb dX12_compare_126 (by decide) ?_
                refine lv_istore (lv' := [(4, .int 1), (3, .int 1), (2, .int (σ_20 h0 8)), (1, .int x_22), (0, .ref h0)]) hx hb dX12_compare_152 hl (by decide) rfl (fun ls hl => ?_)
                refine lv_aload_n hx hb dX12_compare_154 rfl (lv_at hl 4 rfl) ?_
                have k_216 := FR.row fσ_20 tbg (fun j => by simp)
                have k_217a := congrFun eσ_36 bg
                rw [up2_row _ _ (tg_ne tbg th0 (by decide))] at k_217a
                have k_218a := congrFun eσ_190 bg
                rw [up2_row _ _ (tg_ne tbg th0 (by decide))] at k_218a
                have k_219 := FR.row fσ_201 tbg (fun j => by simp)
                have k_220 := FR.row fσ_20 tbl (fun j => by simp)
                have k_221a := congrFun eσ_36 bl
                rw [up2_row _ _ (tg_ne tbl th0 (by decide))] at k_221a
                have k_222a := congrFun eσ_190 bl
                rw [up2_row _ _ (tg_ne tbl th0 (by decide))] at k_222a
                have k_223 := FR.row fσ_201 tbl (fun j => by simp)
                have R_215 : RLx σ σ_201 h0 bg bl tx 1 1 := RLx.fr 1 R_19 ((k_219).trans ((k_218a).trans ((k_217a).trans (k_216)))) ((k_223).trans ((k_222a).trans ((k_221a).trans (k_220)))) (by omega) (by rw [k_207]; omega)
                have R_215n := R_215.2.1
                have k_224 : σ_5 h0 11 = tx := (FR.at fσ_5 th0 (by decide)).trans k0
                have k_225 : σ_20 h0 11 = tx := (FR.at fσ_20 th0 (by decide)).trans k_224
                have k_226 : σ_36 h0 11 = tx := by rw [eσ_36, up2_nej _ _ (by decide)]; exact k_225
                have k_227 : σ_190 h0 11 = tx := by rw [eσ_190, up2_nej _ _ (by decide)]; exact k_226
                have k_228 : σ_201 h0 11 = tx := (FR.at fσ_201 th0 (by decide)).trans k_227
                refine t_ci (va_runV (As := []) (rest := []) ⟨hx, hb, hml, hown, hts⟩ (cz_X12_sum l D cA L T r hG hLA.1 σ_201 ρ_202 hB.2.1 _ h0 mh0 th0 bt hbt mbt tbt bg hbg mbg tbg bl hbl mbl tbl tx k_228 (by first | omega | decide) (by first | omega | decide) (by omega)) (cV hts mv_X12_sum mw_6_216 rfl rfl ⟨Nat.le_of_ble_eq_true rfl, Nat.le_of_ble_eq_true rfl⟩) (pV hB.1 hK hN mh0 th0 (show shp cA 12 _ _ _ = .inr (12, Fs12 _ _ _) from rfl) rfl) rfl rfl hl.1 rfl (lv_room (Nat.le_of_ble_eq_true rfl)) dX12_compare_155 ⟨Nat.le_of_ble_eq_true rfl, Nat.le_of_ble_eq_true rfl⟩) hLA hA hB hS (by decide) (fun x_231 σ_229 ρ_230 H locs hB fσ_229 pσ_229 hS => ?_)
                obtain ⟨g_232, g_233, g_234, g_235⟩ := pσ_229
                have w_236 : 0 ≤ (σ_229 bl tx.toNatClampNeg).toInt ∧ (σ_229 bl tx.toNatClampNeg).toInt ≤ 400 := by have z := hB.2.1 bl mbl tx.toNatClampNeg; rw [tbl] at z; exact z
                have w_237 : 0 ≤ (σ_229 h0 8).toInt ∧ (σ_229 h0 8).toInt ≤ 400 := by have z := hB.2.1 h0 mh0 8; rw [th0] at z; exact z
                have w_238 : 0 ≤ (σ_229 h0 12).toInt ∧ (σ_229 h0 12).toInt ≤ 60 := by have z := hB.2.1 h0 mh0 12; rw [th0] at z; exact z
                have k_239 := FR.row fσ_20 tbg (fun j => by simp)
                have k_240a := congrFun eσ_36 bg
                rw [up2_row _ _ (tg_ne tbg th0 (by decide))] at k_240a
                have k_241a := congrFun eσ_190 bg
                rw [up2_row _ _ (tg_ne tbg th0 (by decide))] at k_241a
                have k_242 := FR.row fσ_201 tbg (fun j => by simp)
                have k_243 := FR.row fσ_20 tbl (fun j => by simp)
                have k_244a := congrFun eσ_36 bl
                rw [up2_row _ _ (tg_ne tbl th0 (by decide))] at k_244a
                have k_245a := congrFun eσ_190 bl
                rw [up2_row _ _ (tg_ne tbl th0 (by decide))] at k_245a
                have k_246 := FR.row fσ_201 tbl (fun j => by simp)
                have ex_247 : EX (σ bg) (σ bl) (σ_201 bg) (σ_201 bl) tx := by rw [((k_242).trans ((k_241a).trans ((k_240a).trans (k_239)))), ((k_246).trans ((k_245a).trans ((k_244a).trans (k_243))))]; exact ex_15
                have ex_248 := EX.tr ex_247 g_234
                obtain ⟨lx_231, ux_231⟩ := g_232
                have k_249 : σ_229 h0 1 = (σ h0 1) := (FR.at fσ_229 th0 (by decide)).trans k_209
                have cq_250 : (σ_229 h0 1).toInt = (σ h0 1).toInt := congrArg Int32.toInt k_249
                refine lv_if_ne (tgt := 163) hx hb dX12_compare_158 (by decide) (fun c_251 => ?_) (fun c_251 => ?_)
                · skip
                  have uc_251 := i_ne (n := 0) (by decide) c_251
                  have R_252 : RLx σ σ_229 h0 bg bl tx 2 1 := RLx.tr R_215 (g_235 (by omega))
                  have R_252n := R_252.2.1
                  refine lv_aload_n hx hb dX12_compare_163 rfl (lv_at hl 4 rfl) ?_
                  refine lv_bipush (v := 6) hx hb dX12_compare_164 (by decide) ?_
                  refine lv_iload hx hb dX12_compare_166 (lv_at hl 0 rfl) ?_
                  refine lv_iadd hx hb dX12_compare_168 ?_
                  refine tp_i (w := 7) (by decide) ?_
                  refine lv_iconst (v := 0) hx hb dX12_compare_169 (by decide) ?_
                  have hPL7 : 0 ≤ (σ_229 bl tx.toNatClampNeg).toInt := (by omega)
                  have k_253 : σ_229 h0 11 = tx := (FR.at fσ_229 th0 (by decide)).trans k_228
                  refine t_cv (va_runV (As := [.int 7, .int 0]) (rest := []) ⟨hx, hb, hml, hown, hts⟩ (cz_X12_puts l D cA L T r hG hLA.1 σ_229 ρ_230 hB.2.1 _ h0 mh0 th0 7 0 bg hbg mbg tbg bl hbl mbl tbl tx k_253 (by first | omega | decide) (by first | omega | decide) (by omega)) (cV hts mv_X12_puts mw_6_233 rfl rfl ⟨Nat.le_of_ble_eq_true rfl, Nat.le_of_ble_eq_true rfl⟩) (pV hB.1 hK hN mh0 th0 (show shp cA 12 _ _ _ = .inr (12, Fs12 _ _ _) from rfl) rfl) rfl rfl hl.1 rfl (lv_room (Nat.le_of_ble_eq_true rfl)) dX12_compare_170 ⟨Nat.le_of_ble_eq_true rfl, Nat.le_of_ble_eq_true rfl⟩) hLA hA hB hS (by decide) (fun σ_254 ρ_255 H locs hB fσ_254 pσ_254 hS => ?_)
                  have w_257 : 0 ≤ (σ_254 bl tx.toNatClampNeg).toInt ∧ (σ_254 bl tx.toNatClampNeg).toInt ≤ 400 := by have z := hB.2.1 bl mbl tx.toNatClampNeg; rw [tbl] at z; exact z
                  have k_258 : σ_254 h0 8 = (σ_229 h0 8) := (FR.at fσ_254 th0 (by decide)).trans rfl
                  have cq_259 : (σ_254 h0 8).toInt = (σ_229 h0 8).toInt := congrArg Int32.toInt k_258
                  have k_260 : σ_254 h0 1 = (σ h0 1) := (FR.at fσ_254 th0 (by decide)).trans k_249
                  have cq_261 : (σ_254 h0 1).toInt = (σ h0 1).toInt := congrArg Int32.toInt k_260
                  have k_262 : σ_254 h0 12 = (σ_229 h0 12) := (FR.at fσ_254 th0 (by decide)).trans rfl
                  have cq_263 : (σ_254 h0 12).toInt = (σ_229 h0 12).toInt := congrArg Int32.toInt k_262
                  have ex_264 := EX.tr ex_248 (PU.ex pσ_254 (by have z := hPL7; omega))
                  have R_265 : RLx σ σ_254 h0 bg bl tx 1 0 := RLx.bin (k := 0) (s := 0) R_252 pσ_254 (by have z := hPL7; omega) (FR.at fσ_254 th0 (by decide)) (FR.at fσ_254 th0 (by decide)) (stp_bin (by decide))
                  have R_265n := R_265.2.1
                  refine lv_iconst (v := 1) hx hb dX12_compare_173 (by decide) ?_
                  exact W.zret (v := 1) hx hb hr rfl (fun t ht hW => ⟨⟨1, (σ_254, ρ_255), rfl, ⟨hB.2.1, hB.2.2, ⟨(show 0 ≤ (1 : Int32).toInt ∧ (1 : Int32).toInt ≤ 1 from ⟨by decide, by decide⟩), (show (σ h0 8).toInt ≤ (σ_254 h0 8).toInt from (by rw [k_258]; omega)), (show EX (σ bg) (σ bl) (σ_254 bg) (σ_254 bl) tx from ex_264), (show (1 : Int32).toInt = 1 → RLx σ σ_254 h0 bg bl tx 1 0 from (fun h => R_265))⟩⟩, (show TP D cA L T r σ_254 ρ_255 t.heap from by rw [ht]; exact hB.1)⟩, hS.F ht⟩) hS.2.2 dX12_compare_174
                · skip
                  have uc_251 := i_eq (n := 0) (by decide) c_251
                  refine lv_iconst (v := 0) hx hb dX12_compare_161 (by decide) ?_
                  exact W.zret (v := 0) hx hb hr rfl (fun t ht hW => ⟨⟨0, (σ_229, ρ_230), rfl, ⟨hB.2.1, hB.2.2, ⟨(show 0 ≤ (0 : Int32).toInt ∧ (0 : Int32).toInt ≤ 1 from ⟨by decide, by decide⟩), (show (σ h0 8).toInt ≤ (σ_229 h0 8).toInt from (by omega)), (show EX (σ bg) (σ bl) (σ_229 bg) (σ_229 bl) tx from ex_248), (show (0 : Int32).toInt = 1 → RLx σ σ_229 h0 bg bl tx 1 0 from (fun h => absurd h (by decide)))⟩⟩, (show TP D cA L T r σ_229 ρ_230 t.heap from by rw [ht]; exact hB.1)⟩, hS.F ht⟩) hS.2.2 dX12_compare_162
            · skip
              have uc_213 := i_eq (n := 0) (by decide) c_213
              refine lv_iconst (v := 0) hx hb dX12_compare_113 (by decide) ?_
              have k_266 := FR.row fσ_20 tbg (fun j => by simp)
              have k_267a := congrFun eσ_36 bg
              rw [up2_row _ _ (tg_ne tbg th0 (by decide))] at k_267a
              have k_268a := congrFun eσ_190 bg
              rw [up2_row _ _ (tg_ne tbg th0 (by decide))] at k_268a
              have k_269 := FR.row fσ_201 tbg (fun j => by simp)
              have k_270 := FR.row fσ_20 tbl (fun j => by simp)
              have k_271a := congrFun eσ_36 bl
              rw [up2_row _ _ (tg_ne tbl th0 (by decide))] at k_271a
              have k_272a := congrFun eσ_190 bl
              rw [up2_row _ _ (tg_ne tbl th0 (by decide))] at k_272a
              have k_273 := FR.row fσ_201 tbl (fun j => by simp)
              have ex_274 : EX (σ bg) (σ bl) (σ_201 bg) (σ_201 bl) tx := by rw [((k_269).trans ((k_268a).trans ((k_267a).trans (k_266)))), ((k_273).trans ((k_272a).trans ((k_271a).trans (k_270))))]; exact ex_15
              exact W.zret (v := 0) hx hb hr rfl (fun t ht hW => ⟨⟨0, (σ_201, ρ_202), rfl, ⟨hB.2.1, hB.2.2, ⟨(show 0 ≤ (0 : Int32).toInt ∧ (0 : Int32).toInt ≤ 1 from ⟨by decide, by decide⟩), (show (σ h0 8).toInt ≤ (σ_201 h0 8).toInt from (by rw [k_207]; omega)), (show EX (σ bg) (σ bl) (σ_201 bg) (σ_201 bl) tx from ex_274), (show (0 : Int32).toInt = 1 → RLx σ σ_201 h0 bg bl tx 1 0 from (fun h => absurd h (by decide)))⟩⟩, (show TP D cA L T r σ_201 ρ_202 t.heap from by rw [ht]; exact hB.1)⟩, hS.F ht⟩) hS.2.2 dX12_compare_114
    · skip
      have uc_34 := i_ne (n := 60) (by decide) c_34
      refine lv_iload_n hx hb dX12_compare_25 rfl (lv_at hl 1 rfl) ?_
      refine lv_bipush (v := 61) hx hb dX12_compare_26 (by decide) ?_
      refine lv_icmp_eq (tgt := 44) hx hb dX12_compare_28 (by decide) (fun c_275 => ?_) (fun c_275 => ?_)
      · skip
        have uc_275 := i_eq (n := 61) (by decide) c_275
        refine lv_aload_n hx hb dX12_compare_44 rfl (lv_at hl 2 rfl) ?_
        refine lv_dup hx hb dX12_compare_45 rfl ?_
        refine t_gv hx hb hts hown hK hB mh0 th0 fi_12_8 rfl mw_5_224 dX12_compare_46 ?_
        refine lv_iconst (v := 1) hx hb dX12_compare_49 (by decide) ?_
        refine lv_iadd hx hb dX12_compare_50 ?_
        refine lv_topi (fun x_276 ex_276 => ?_)
        have vx_276 := b_add (rfl : (σ_20 h0 8).toInt = _) (by decide : (1 : Int32).toInt = 1) ex_276 (by omega) (by omega)
        refine t_pi hx hb hts hown hK hLA hB hS mh0 th0 fi_12_8 rfl rfl rfl (by first | omega | (subst_vars; omega)) (by first | omega | (subst_vars; omega)) (Or.inl (by decide)) mw_5_224 dX12_compare_51 (fun H locs σ_277 eσ_277 hB hS => ?_)
        have k_278 : σ_277 h0 8 = x_276 := by rw [eσ_277]; exact up2_same _ _ _ _
        refine lv_iload_n hx hb dX12_compare_54 rfl (lv_at hl 1 rfl) ?_
        refine lv_bipush (v := 61) hx hb dX12_compare_55 (by decide) ?_
        refine lv_icmp_eq (tgt := 89) hx hb dX12_compare_57 (by decide) (fun c_279 => ?_) (fun c_279 => ?_)
        · skip
          have uc_279 := i_eq (n := 61) (by decide) c_279
          refine lv_iconst (v := 0) hx hb dX12_compare_89 (by decide) ?_
          refine lv_istore_n (lv' := [(3, .int 0), (2, .int (σ_20 h0 8)), (1, .int x_22), (0, .ref h0)]) hx hb dX12_compare_90 rfl hl (by decide) rfl (fun ls hl => ?_)
          refine lv_iload_n hx hb dX12_compare_91 rfl (lv_at hl 0 rfl) ?_
          refine lv_if_eq (tgt := 105) hx hb dX12_compare_92 (by decide) (fun _ => ?_) (fun c9 => absurd (by decide) c9)
          refine lv_aload_n hx hb dX12_compare_105 rfl (lv_at hl 3 rfl) ?_
          refine lv_iload_n hx hb dX12_compare_106 rfl (lv_at hl 1 rfl) ?_
          have cq_280 : (σ_277 h0 8).toInt = x_276.toInt := congrArg Int32.toInt k_278
          have k_281 : σ_277 h0 1 = (σ h0 1) := by rw [eσ_277, up2_nej _ _ (by decide)]; exact k_28
          have cq_282 : (σ_277 h0 1).toInt = (σ h0 1).toInt := congrArg Int32.toInt k_281
          have k_283 : σ_277 h0 12 = (σ_5 h0 12) := by rw [eσ_277, up2_nej _ _ (by decide)]; exact k_30
          have cq_284 : (σ_277 h0 12).toInt = (σ_5 h0 12).toInt := congrArg Int32.toInt k_283
          have k_285 : σ_277 bl tx.toNatClampNeg = (σ_5 bl tx.toNatClampNeg) := by rw [eσ_277, up2_nea _ _ (tg_ne tbl th0 (by decide))]; exact k_32
          have cq_286 : (σ_277 bl tx.toNatClampNeg).toInt = (σ_5 bl tx.toNatClampNeg).toInt := congrArg Int32.toInt k_285
          refine t_ci (va_runV (As := [.int (σ_20 h0 8)]) (rest := []) ⟨hx, hb, hml, hown, hts⟩ (cz_X12_makes l D cA L T r hG hLA.1 σ_277 ρ_21 hB.2.1 _ h0 mh0 th0 ((σ_20 h0 8)) (by first | omega | decide) (by first | omega | decide)) (cV hts mv_X12_makes mw_6_229 rfl rfl ⟨Nat.le_of_ble_eq_true rfl, Nat.le_of_ble_eq_true rfl⟩) (pV hB.1 hK hN mh0 th0 (show shp cA 12 _ _ _ = .inr (12, Fs12 _ _ _) from rfl) rfl) rfl rfl hl.1 rfl (lv_room (Nat.le_of_ble_eq_true rfl)) dX12_compare_107 ⟨Nat.le_of_ble_eq_true rfl, Nat.le_of_ble_eq_true rfl⟩) hLA hA hB hS (by decide) (fun x_289 σ_287 ρ_288 H locs hB fσ_287 pσ_287 hS => ?_)
          obtain ⟨g_290, g_291⟩ := pσ_287
          have w_292 : 0 ≤ (σ_287 h0 12).toInt ∧ (σ_287 h0 12).toInt ≤ 60 := by have z := hB.2.1 h0 mh0 12; rw [th0] at z; exact z
          obtain ⟨lx_289, ux_289⟩ := g_290
          have k_293 : σ_287 h0 8 = x_276 := (FR.at fσ_287 th0 (by decide)).trans k_278
          have cq_294 : (σ_287 h0 8).toInt = x_276.toInt := congrArg Int32.toInt k_293
          have k_295 : σ_287 h0 1 = (σ h0 1) := (FR.at fσ_287 th0 (by decide)).trans k_281
          have cq_296 : (σ_287 h0 1).toInt = (σ h0 1).toInt := congrArg Int32.toInt k_295
          have k_297 : σ_287 bl tx.toNatClampNeg = (σ_5 bl tx.toNatClampNeg) := (FR.at fσ_287 tbl (by simp)).trans k_285
          have cq_298 : (σ_287 bl tx.toNatClampNeg).toInt = (σ_5 bl tx.toNatClampNeg).toInt := congrArg Int32.toInt k_297
          refine lv_if_ne (tgt := 115) hx hb dX12_compare_110 (by decide) (fun c_299 => ?_) (fun c_299 => ?_)
          · skip
            have uc_299 := i_ne (n := 0) (by decide) c_299
            refine lv_iload_n hx hb dX12_compare_115 rfl (lv_at hl 2 rfl) ?_
            refine lv_bipush (v := 60) hx hb dX12_compare_116 (by decide) ?_
            refine lv_icmp_ne (tgt := 133) hx hb dX12_compare_118 (by decide) (fun c_300 => ?_) (fun c_300 => ?_)
            · skip
              have uc_300 := i_ne (n := 60) (by decide) c_300
              refine lv_iload_n hx hb dX12_compare_133 rfl (lv_at hl 2 rfl) ?_
              refine lv_bipush (v := 61) hx hb dX12_compare_134 (by decide) ?_
              refine lv_icmp_ne (tgt := 143) hx hb dX12_compare_136 (by decide) (fun c_301 => ?_) (fun c_301 => ?_)
              · skip
                have uc_301 := i_ne (n := 61) (by decide) c_301
                exfalso; omega
              · skip
                have uc_301 := i_eq (n := 61) (by decide) c_301
                refine lv_iconst (v := 2) hx hb dX12_compare_139 (by decide) ?_
                refine lv_goto (tgt := 152) hx hb dX12_compare_140 (by decide) ?_
                refine lv_istore (lv' := [(4, .int 2), (3, .int 0), (2, .int (σ_20 h0 8)), (1, .int x_22), (0, .ref h0)]) hx hb dX12_compare_152 hl (by decide) rfl (fun ls hl => ?_)
                refine lv_aload_n hx hb dX12_compare_154 rfl (lv_at hl 4 rfl) ?_
                have k_303 := FR.row fσ_20 tbg (fun j => by simp)
                have k_304a := congrFun eσ_277 bg
                rw [up2_row _ _ (tg_ne tbg th0 (by decide))] at k_304a
                have k_305 := FR.row fσ_287 tbg (fun j => by simp)
                have k_306 := FR.row fσ_20 tbl (fun j => by simp)
                have k_307a := congrFun eσ_277 bl
                rw [up2_row _ _ (tg_ne tbl th0 (by decide))] at k_307a
                have k_308 := FR.row fσ_287 tbl (fun j => by simp)
                have R_302 : RLx σ σ_287 h0 bg bl tx 1 1 := RLx.fr 1 R_19 ((k_305).trans ((k_304a).trans (k_303))) ((k_308).trans ((k_307a).trans (k_306))) (by omega) (by rw [k_293]; omega)
                have R_302n := R_302.2.1
                have k_309 : σ_5 h0 11 = tx := (FR.at fσ_5 th0 (by decide)).trans k0
                have k_310 : σ_20 h0 11 = tx := (FR.at fσ_20 th0 (by decide)).trans k_309
                have k_311 : σ_277 h0 11 = tx := by rw [eσ_277, up2_nej _ _ (by decide)]; exact k_310
                have k_312 : σ_287 h0 11 = tx := (FR.at fσ_287 th0 (by decide)).trans k_311
                refine t_ci (va_runV (As := []) (rest := []) ⟨hx, hb, hml, hown, hts⟩ (cz_X12_sum l D cA L T r hG hLA.1 σ_287 ρ_288 hB.2.1 _ h0 mh0 th0 bt hbt mbt tbt bg hbg mbg tbg bl hbl mbl tbl tx k_312 (by first | omega | decide) (by first | omega | decide) (by omega)) (cV hts mv_X12_sum mw_6_216 rfl rfl ⟨Nat.le_of_ble_eq_true rfl, Nat.le_of_ble_eq_true rfl⟩) (pV hB.1 hK hN mh0 th0 (show shp cA 12 _ _ _ = .inr (12, Fs12 _ _ _) from rfl) rfl) rfl rfl hl.1 rfl (lv_room (Nat.le_of_ble_eq_true rfl)) dX12_compare_155 ⟨Nat.le_of_ble_eq_true rfl, Nat.le_of_ble_eq_true rfl⟩) hLA hA hB hS (by decide) (fun x_315 σ_313 ρ_314 H locs hB fσ_313 pσ_313 hS => ?_)
                obtain ⟨g_316, g_317, g_318, g_319⟩ := pσ_313
                have w_320 : 0 ≤ (σ_313 bl tx.toNatClampNeg).toInt ∧ (σ_313 bl tx.toNatClampNeg).toInt ≤ 400 := by have z := hB.2.1 bl mbl tx.toNatClampNeg; rw [tbl] at z; exact z
                have w_321 : 0 ≤ (σ_313 h0 8).toInt ∧ (σ_313 h0 8).toInt ≤ 400 := by have z := hB.2.1 h0 mh0 8; rw [th0] at z; exact z
                have w_322 : 0 ≤ (σ_313 h0 12).toInt ∧ (σ_313 h0 12).toInt ≤ 60 := by have z := hB.2.1 h0 mh0 12; rw [th0] at z; exact z
                have k_323 := FR.row fσ_20 tbg (fun j => by simp)
                have k_324a := congrFun eσ_277 bg
                rw [up2_row _ _ (tg_ne tbg th0 (by decide))] at k_324a
                have k_325 := FR.row fσ_287 tbg (fun j => by simp)
                have k_326 := FR.row fσ_20 tbl (fun j => by simp)
                have k_327a := congrFun eσ_277 bl
                rw [up2_row _ _ (tg_ne tbl th0 (by decide))] at k_327a
                have k_328 := FR.row fσ_287 tbl (fun j => by simp)
                have ex_329 : EX (σ bg) (σ bl) (σ_287 bg) (σ_287 bl) tx := by rw [((k_325).trans ((k_324a).trans (k_323))), ((k_328).trans ((k_327a).trans (k_326)))]; exact ex_15
                have ex_330 := EX.tr ex_329 g_318
                obtain ⟨lx_315, ux_315⟩ := g_316
                have k_331 : σ_313 h0 1 = (σ h0 1) := (FR.at fσ_313 th0 (by decide)).trans k_295
                have cq_332 : (σ_313 h0 1).toInt = (σ h0 1).toInt := congrArg Int32.toInt k_331
                refine lv_if_ne (tgt := 163) hx hb dX12_compare_158 (by decide) (fun c_333 => ?_) (fun c_333 => ?_)
                · skip
                  have uc_333 := i_ne (n := 0) (by decide) c_333
                  have R_334 : RLx σ σ_313 h0 bg bl tx 2 1 := RLx.tr R_302 (g_319 (by omega))
                  have R_334n := R_334.2.1
                  refine lv_aload_n hx hb dX12_compare_163 rfl (lv_at hl 4 rfl) ?_
                  refine lv_bipush (v := 6) hx hb dX12_compare_164 (by decide) ?_
                  refine lv_iload hx hb dX12_compare_166 (lv_at hl 0 rfl) ?_
                  refine lv_iadd hx hb dX12_compare_168 ?_
                  refine tp_i (w := 8) (by decide) ?_
                  refine lv_iconst (v := 0) hx hb dX12_compare_169 (by decide) ?_
                  have hPL6 : 0 ≤ (σ_313 bl tx.toNatClampNeg).toInt := (by omega)
                  have k_335 : σ_313 h0 11 = tx := (FR.at fσ_313 th0 (by decide)).trans k_312
                  refine t_cv (va_runV (As := [.int 8, .int 0]) (rest := []) ⟨hx, hb, hml, hown, hts⟩ (cz_X12_puts l D cA L T r hG hLA.1 σ_313 ρ_314 hB.2.1 _ h0 mh0 th0 8 0 bg hbg mbg tbg bl hbl mbl tbl tx k_335 (by first | omega | decide) (by first | omega | decide) (by omega)) (cV hts mv_X12_puts mw_6_233 rfl rfl ⟨Nat.le_of_ble_eq_true rfl, Nat.le_of_ble_eq_true rfl⟩) (pV hB.1 hK hN mh0 th0 (show shp cA 12 _ _ _ = .inr (12, Fs12 _ _ _) from rfl) rfl) rfl rfl hl.1 rfl (lv_room (Nat.le_of_ble_eq_true rfl)) dX12_compare_170 ⟨Nat.le_of_ble_eq_true rfl, Nat.le_of_ble_eq_true rfl⟩) hLA hA hB hS (by decide) (fun σ_336 ρ_337 H locs hB fσ_336 pσ_336 hS => ?_)
                  have w_339 : 0 ≤ (σ_336 bl tx.toNatClampNeg).toInt ∧ (σ_336 bl tx.toNatClampNeg).toInt ≤ 400 := by have z := hB.2.1 bl mbl tx.toNatClampNeg; rw [tbl] at z; exact z
                  have k_340 : σ_336 h0 8 = (σ_313 h0 8) := (FR.at fσ_336 th0 (by decide)).trans rfl
                  have cq_341 : (σ_336 h0 8).toInt = (σ_313 h0 8).toInt := congrArg Int32.toInt k_340
                  have k_342 : σ_336 h0 1 = (σ h0 1) := (FR.at fσ_336 th0 (by decide)).trans k_331
                  have cq_343 : (σ_336 h0 1).toInt = (σ h0 1).toInt := congrArg Int32.toInt k_342
                  have k_344 : σ_336 h0 12 = (σ_313 h0 12) := (FR.at fσ_336 th0 (by decide)).trans rfl
                  have cq_345 : (σ_336 h0 12).toInt = (σ_313 h0 12).toInt := congrArg Int32.toInt k_344
                  have ex_346 := EX.tr ex_330 (PU.ex pσ_336 (by have z := hPL6; omega))
                  have R_347 : RLx σ σ_336 h0 bg bl tx 1 0 := RLx.bin (k := 0) (s := 0) R_334 pσ_336 (by have z := hPL6; omega) (FR.at fσ_336 th0 (by decide)) (FR.at fσ_336 th0 (by decide)) (stp_bin (by decide))
                  have R_347n := R_347.2.1
                  refine lv_iconst (v := 1) hx hb dX12_compare_173 (by decide) ?_
                  exact W.zret (v := 1) hx hb hr rfl (fun t ht hW => ⟨⟨1, (σ_336, ρ_337), rfl, ⟨hB.2.1, hB.2.2, ⟨(show 0 ≤ (1 : Int32).toInt ∧ (1 : Int32).toInt ≤ 1 from ⟨by decide, by decide⟩), (show (σ h0 8).toInt ≤ (σ_336 h0 8).toInt from (by rw [k_340]; omega)), (show EX (σ bg) (σ bl) (σ_336 bg) (σ_336 bl) tx from ex_346), (show (1 : Int32).toInt = 1 → RLx σ σ_336 h0 bg bl tx 1 0 from (fun h => R_347))⟩⟩, (show TP D cA L T r σ_336 ρ_337 t.heap from by rw [ht]; exact hB.1)⟩, hS.F ht⟩) hS.2.2 dX12_compare_174
                · skip
                  have uc_333 := i_eq (n := 0) (by decide) c_333
                  refine lv_iconst (v := 0) hx hb dX12_compare_161 (by decide) ?_
                  exact W.zret (v := 0) hx hb hr rfl (fun t ht hW => ⟨⟨0, (σ_313, ρ_314), rfl, ⟨hB.2.1, hB.2.2, ⟨(show 0 ≤ (0 : Int32).toInt ∧ (0 : Int32).toInt ≤ 1 from ⟨by decide, by decide⟩), (show (σ h0 8).toInt ≤ (σ_313 h0 8).toInt from (by omega)), (show EX (σ bg) (σ bl) (σ_313 bg) (σ_313 bl) tx from ex_330), (show (0 : Int32).toInt = 1 → RLx σ σ_313 h0 bg bl tx 1 0 from (fun h => absurd h (by decide)))⟩⟩, (show TP D cA L T r σ_313 ρ_314 t.heap from by rw [ht]; exact hB.1)⟩, hS.F ht⟩) hS.2.2 dX12_compare_162
            · skip
              have uc_300 := i_eq (n := 60) (by decide) c_300
              exfalso; omega
          · skip
            have uc_299 := i_eq (n := 0) (by decide) c_299
            refine lv_iconst (v := 0) hx hb dX12_compare_113 (by decide) ?_
            have k_348 := FR.row fσ_20 tbg (fun j => by simp)
            have k_349a := congrFun eσ_277 bg
            rw [up2_row _ _ (tg_ne tbg th0 (by decide))] at k_349a
            have k_350 := FR.row fσ_287 tbg (fun j => by simp)
            have k_351 := FR.row fσ_20 tbl (fun j => by simp)
            have k_352a := congrFun eσ_277 bl
            rw [up2_row _ _ (tg_ne tbl th0 (by decide))] at k_352a
            have k_353 := FR.row fσ_287 tbl (fun j => by simp)
            have ex_354 : EX (σ bg) (σ bl) (σ_287 bg) (σ_287 bl) tx := by rw [((k_350).trans ((k_349a).trans (k_348))), ((k_353).trans ((k_352a).trans (k_351)))]; exact ex_15
            exact W.zret (v := 0) hx hb hr rfl (fun t ht hW => ⟨⟨0, (σ_287, ρ_288), rfl, ⟨hB.2.1, hB.2.2, ⟨(show 0 ≤ (0 : Int32).toInt ∧ (0 : Int32).toInt ≤ 1 from ⟨by decide, by decide⟩), (show (σ h0 8).toInt ≤ (σ_287 h0 8).toInt from (by rw [k_293]; omega)), (show EX (σ bg) (σ bl) (σ_287 bg) (σ_287 bl) tx from ex_354), (show (0 : Int32).toInt = 1 → RLx σ σ_287 h0 bg bl tx 1 0 from (fun h => absurd h (by decide)))⟩⟩, (show TP D cA L T r σ_287 ρ_288 t.heap from by rw [ht]; exact hB.1)⟩, hS.F ht⟩) hS.2.2 dX12_compare_114
        · skip
          have uc_279 := i_ne (n := 61) (by decide) c_279
          exfalso; omega
      · skip
        have uc_275 := i_ne (n := 61) (by decide) c_275
        refine lv_iload_n hx hb dX12_compare_31 rfl (lv_at hl 1 rfl) ?_
        refine lv_bipush (v := 62) hx hb dX12_compare_32 (by decide) ?_
        refine lv_icmp_eq (tgt := 44) hx hb dX12_compare_34 (by decide) (fun c_355 => ?_) (fun c_355 => ?_)
        · skip
          have uc_355 := i_eq (n := 62) (by decide) c_355
          refine lv_aload_n hx hb dX12_compare_44 rfl (lv_at hl 2 rfl) ?_
          refine lv_dup hx hb dX12_compare_45 rfl ?_
          refine t_gv hx hb hts hown hK hB mh0 th0 fi_12_8 rfl mw_5_224 dX12_compare_46 ?_
          refine lv_iconst (v := 1) hx hb dX12_compare_49 (by decide) ?_
          refine lv_iadd hx hb dX12_compare_50 ?_
          refine lv_topi (fun x_356 ex_356 => ?_)
          have vx_356 := b_add (rfl : (σ_20 h0 8).toInt = _) (by decide : (1 : Int32).toInt = 1) ex_356 (by omega) (by omega)
          refine t_pi hx hb hts hown hK hLA hB hS mh0 th0 fi_12_8 rfl rfl rfl (by first | omega | (subst_vars; omega)) (by first | omega | (subst_vars; omega)) (Or.inl (by decide)) mw_5_224 dX12_compare_51 (fun H locs σ_357 eσ_357 hB hS => ?_)
          have k_358 : σ_357 h0 8 = x_356 := by rw [eσ_357]; exact up2_same _ _ _ _
          refine lv_iload_n hx hb dX12_compare_54 rfl (lv_at hl 1 rfl) ?_
          refine lv_bipush (v := 61) hx hb dX12_compare_55 (by decide) ?_
          refine lv_icmp_eq (tgt := 89) hx hb dX12_compare_57 (by decide) (fun c_359 => ?_) (fun c_359 => ?_)
          · skip
            have uc_359 := i_eq (n := 61) (by decide) c_359
            exfalso; omega
          · skip
            have uc_359 := i_ne (n := 61) (by decide) c_359
            refine lv_aload_n hx hb dX12_compare_60 rfl (lv_at hl 2 rfl) ?_
            refine t_gv hx hb hts hown hK hB mh0 th0 fi_12_8 k_358 mw_5_224 dX12_compare_61 ?_
            refine lv_aload_n hx hb dX12_compare_64 rfl (lv_at hl 2 rfl) ?_
            have k_360 : σ_357 h0 1 = (σ h0 1) := by rw [eσ_357, up2_nej _ _ (by decide)]; exact k_28
            refine t_gv hx hb hts hown hK hB mh0 th0 fi_12_1 k_360 mw_5_217 dX12_compare_65 ?_
            refine lv_icmp_ge (tgt := 89) hx hb dX12_compare_68 (by decide) (fun c_361 => ?_) (fun c_361 => ?_)
            · skip
              have uc_361 := j_le c_361
              refine lv_iconst (v := 0) hx hb dX12_compare_89 (by decide) ?_
              refine lv_istore_n (lv' := [(3, .int 0), (2, .int (σ_20 h0 8)), (1, .int x_22), (0, .ref h0)]) hx hb dX12_compare_90 rfl hl (by decide) rfl (fun ls hl => ?_)
              refine lv_iload_n hx hb dX12_compare_91 rfl (lv_at hl 0 rfl) ?_
              refine lv_if_eq (tgt := 105) hx hb dX12_compare_92 (by decide) (fun _ => ?_) (fun c9 => absurd (by decide) c9)
              refine lv_aload_n hx hb dX12_compare_105 rfl (lv_at hl 3 rfl) ?_
              refine lv_iload_n hx hb dX12_compare_106 rfl (lv_at hl 1 rfl) ?_
              have cq_362 : (σ_357 h0 8).toInt = x_356.toInt := congrArg Int32.toInt k_358
              have cq_363 : (σ_357 h0 1).toInt = (σ h0 1).toInt := congrArg Int32.toInt k_360
              have k_364 : σ_357 h0 12 = (σ_5 h0 12) := by rw [eσ_357, up2_nej _ _ (by decide)]; exact k_30
              have cq_365 : (σ_357 h0 12).toInt = (σ_5 h0 12).toInt := congrArg Int32.toInt k_364
              have k_366 : σ_357 bl tx.toNatClampNeg = (σ_5 bl tx.toNatClampNeg) := by rw [eσ_357, up2_nea _ _ (tg_ne tbl th0 (by decide))]; exact k_32
              have cq_367 : (σ_357 bl tx.toNatClampNeg).toInt = (σ_5 bl tx.toNatClampNeg).toInt := congrArg Int32.toInt k_366
              refine t_ci (va_runV (As := [.int (σ_20 h0 8)]) (rest := []) ⟨hx, hb, hml, hown, hts⟩ (cz_X12_makes l D cA L T r hG hLA.1 σ_357 ρ_21 hB.2.1 _ h0 mh0 th0 ((σ_20 h0 8)) (by first | omega | decide) (by first | omega | decide)) (cV hts mv_X12_makes mw_6_229 rfl rfl ⟨Nat.le_of_ble_eq_true rfl, Nat.le_of_ble_eq_true rfl⟩) (pV hB.1 hK hN mh0 th0 (show shp cA 12 _ _ _ = .inr (12, Fs12 _ _ _) from rfl) rfl) rfl rfl hl.1 rfl (lv_room (Nat.le_of_ble_eq_true rfl)) dX12_compare_107 ⟨Nat.le_of_ble_eq_true rfl, Nat.le_of_ble_eq_true rfl⟩) hLA hA hB hS (by decide) (fun x_370 σ_368 ρ_369 H locs hB fσ_368 pσ_368 hS => ?_)
              obtain ⟨g_371, g_372⟩ := pσ_368
              have w_373 : 0 ≤ (σ_368 h0 12).toInt ∧ (σ_368 h0 12).toInt ≤ 60 := by have z := hB.2.1 h0 mh0 12; rw [th0] at z; exact z
              obtain ⟨lx_370, ux_370⟩ := g_371
              have k_374 : σ_368 h0 8 = x_356 := (FR.at fσ_368 th0 (by decide)).trans k_358
              have cq_375 : (σ_368 h0 8).toInt = x_356.toInt := congrArg Int32.toInt k_374
              have k_376 : σ_368 h0 1 = (σ h0 1) := (FR.at fσ_368 th0 (by decide)).trans k_360
              have cq_377 : (σ_368 h0 1).toInt = (σ h0 1).toInt := congrArg Int32.toInt k_376
              have k_378 : σ_368 bl tx.toNatClampNeg = (σ_5 bl tx.toNatClampNeg) := (FR.at fσ_368 tbl (by simp)).trans k_366
              have cq_379 : (σ_368 bl tx.toNatClampNeg).toInt = (σ_5 bl tx.toNatClampNeg).toInt := congrArg Int32.toInt k_378
              refine lv_if_ne (tgt := 115) hx hb dX12_compare_110 (by decide) (fun c_380 => ?_) (fun c_380 => ?_)
              · skip
                have uc_380 := i_ne (n := 0) (by decide) c_380
                refine lv_iload_n hx hb dX12_compare_115 rfl (lv_at hl 2 rfl) ?_
                refine lv_bipush (v := 60) hx hb dX12_compare_116 (by decide) ?_
                refine lv_icmp_ne (tgt := 133) hx hb dX12_compare_118 (by decide) (fun c_381 => ?_) (fun c_381 => ?_)
                · skip
                  have uc_381 := i_ne (n := 60) (by decide) c_381
                  refine lv_iload_n hx hb dX12_compare_133 rfl (lv_at hl 2 rfl) ?_
                  refine lv_bipush (v := 61) hx hb dX12_compare_134 (by decide) ?_
                  refine lv_icmp_ne (tgt := 143) hx hb dX12_compare_136 (by decide) (fun c_382 => ?_) (fun c_382 => ?_)
                  · skip
                    have uc_382 := i_ne (n := 61) (by decide) c_382
                    refine lv_iload_n hx hb dX12_compare_143 rfl (lv_at hl 0 rfl) ?_
                    refine lv_if_eq (tgt := 151) hx hb dX12_compare_144 (by decide) (fun _ => ?_) (fun c9 => absurd (by decide) c9)
                    refine lv_iconst (v := 4) hx hb dX12_compare_151 (by decide) ?_
                    refine lv_istore (lv' := [(4, .int 4), (3, .int 0), (2, .int (σ_20 h0 8)), (1, .int x_22), (0, .ref h0)]) hx hb dX12_compare_152 hl (by decide) rfl (fun ls hl => ?_)
                    refine lv_aload_n hx hb dX12_compare_154 rfl (lv_at hl 4 rfl) ?_
                    have k_384 := FR.row fσ_20 tbg (fun j => by simp)
                    have k_385a := congrFun eσ_357 bg
                    rw [up2_row _ _ (tg_ne tbg th0 (by decide))] at k_385a
                    have k_386 := FR.row fσ_368 tbg (fun j => by simp)
                    have k_387 := FR.row fσ_20 tbl (fun j => by simp)
                    have k_388a := congrFun eσ_357 bl
                    rw [up2_row _ _ (tg_ne tbl th0 (by decide))] at k_388a
                    have k_389 := FR.row fσ_368 tbl (fun j => by simp)
                    have R_383 : RLx σ σ_368 h0 bg bl tx 1 1 := RLx.fr 1 R_19 ((k_386).trans ((k_385a).trans (k_384))) ((k_389).trans ((k_388a).trans (k_387))) (by omega) (by rw [k_374]; omega)
                    have R_383n := R_383.2.1
                    have k_390 : σ_5 h0 11 = tx := (FR.at fσ_5 th0 (by decide)).trans k0
                    have k_391 : σ_20 h0 11 = tx := (FR.at fσ_20 th0 (by decide)).trans k_390
                    have k_392 : σ_357 h0 11 = tx := by rw [eσ_357, up2_nej _ _ (by decide)]; exact k_391
                    have k_393 : σ_368 h0 11 = tx := (FR.at fσ_368 th0 (by decide)).trans k_392
                    refine t_ci (va_runV (As := []) (rest := []) ⟨hx, hb, hml, hown, hts⟩ (cz_X12_sum l D cA L T r hG hLA.1 σ_368 ρ_369 hB.2.1 _ h0 mh0 th0 bt hbt mbt tbt bg hbg mbg tbg bl hbl mbl tbl tx k_393 (by first | omega | decide) (by first | omega | decide) (by omega)) (cV hts mv_X12_sum mw_6_216 rfl rfl ⟨Nat.le_of_ble_eq_true rfl, Nat.le_of_ble_eq_true rfl⟩) (pV hB.1 hK hN mh0 th0 (show shp cA 12 _ _ _ = .inr (12, Fs12 _ _ _) from rfl) rfl) rfl rfl hl.1 rfl (lv_room (Nat.le_of_ble_eq_true rfl)) dX12_compare_155 ⟨Nat.le_of_ble_eq_true rfl, Nat.le_of_ble_eq_true rfl⟩) hLA hA hB hS (by decide) (fun x_396 σ_394 ρ_395 H locs hB fσ_394 pσ_394 hS => ?_)
                    obtain ⟨g_397, g_398, g_399, g_400⟩ := pσ_394
                    have w_401 : 0 ≤ (σ_394 bl tx.toNatClampNeg).toInt ∧ (σ_394 bl tx.toNatClampNeg).toInt ≤ 400 := by have z := hB.2.1 bl mbl tx.toNatClampNeg; rw [tbl] at z; exact z
                    have w_402 : 0 ≤ (σ_394 h0 8).toInt ∧ (σ_394 h0 8).toInt ≤ 400 := by have z := hB.2.1 h0 mh0 8; rw [th0] at z; exact z
                    have w_403 : 0 ≤ (σ_394 h0 12).toInt ∧ (σ_394 h0 12).toInt ≤ 60 := by have z := hB.2.1 h0 mh0 12; rw [th0] at z; exact z
                    have k_404 := FR.row fσ_20 tbg (fun j => by simp)
                    have k_405a := congrFun eσ_357 bg
                    rw [up2_row _ _ (tg_ne tbg th0 (by decide))] at k_405a
                    have k_406 := FR.row fσ_368 tbg (fun j => by simp)
                    have k_407 := FR.row fσ_20 tbl (fun j => by simp)
                    have k_408a := congrFun eσ_357 bl
                    rw [up2_row _ _ (tg_ne tbl th0 (by decide))] at k_408a
                    have k_409 := FR.row fσ_368 tbl (fun j => by simp)
                    have ex_410 : EX (σ bg) (σ bl) (σ_368 bg) (σ_368 bl) tx := by rw [((k_406).trans ((k_405a).trans (k_404))), ((k_409).trans ((k_408a).trans (k_407)))]; exact ex_15
                    have ex_411 := EX.tr ex_410 g_399
                    obtain ⟨lx_396, ux_396⟩ := g_397
                    have k_412 : σ_394 h0 1 = (σ h0 1) := (FR.at fσ_394 th0 (by decide)).trans k_376
                    have cq_413 : (σ_394 h0 1).toInt = (σ h0 1).toInt := congrArg Int32.toInt k_412
                    refine lv_if_ne (tgt := 163) hx hb dX12_compare_158 (by decide) (fun c_414 => ?_) (fun c_414 => ?_)
                    · skip
                      have uc_414 := i_ne (n := 0) (by decide) c_414
                      have R_415 : RLx σ σ_394 h0 bg bl tx 2 1 := RLx.tr R_383 (g_400 (by omega))
                      have R_415n := R_415.2.1
                      refine lv_aload_n hx hb dX12_compare_163 rfl (lv_at hl 4 rfl) ?_
                      refine lv_bipush (v := 6) hx hb dX12_compare_164 (by decide) ?_
                      refine lv_iload hx hb dX12_compare_166 (lv_at hl 0 rfl) ?_
                      refine lv_iadd hx hb dX12_compare_168 ?_
                      refine tp_i (w := 10) (by decide) ?_
                      refine lv_iconst (v := 0) hx hb dX12_compare_169 (by decide) ?_
                      have hPL6 : 0 ≤ (σ_394 bl tx.toNatClampNeg).toInt := (by omega)
                      have k_416 : σ_394 h0 11 = tx := (FR.at fσ_394 th0 (by decide)).trans k_393
                      refine t_cv (va_runV (As := [.int 10, .int 0]) (rest := []) ⟨hx, hb, hml, hown, hts⟩ (cz_X12_puts l D cA L T r hG hLA.1 σ_394 ρ_395 hB.2.1 _ h0 mh0 th0 10 0 bg hbg mbg tbg bl hbl mbl tbl tx k_416 (by first | omega | decide) (by first | omega | decide) (by omega)) (cV hts mv_X12_puts mw_6_233 rfl rfl ⟨Nat.le_of_ble_eq_true rfl, Nat.le_of_ble_eq_true rfl⟩) (pV hB.1 hK hN mh0 th0 (show shp cA 12 _ _ _ = .inr (12, Fs12 _ _ _) from rfl) rfl) rfl rfl hl.1 rfl (lv_room (Nat.le_of_ble_eq_true rfl)) dX12_compare_170 ⟨Nat.le_of_ble_eq_true rfl, Nat.le_of_ble_eq_true rfl⟩) hLA hA hB hS (by decide) (fun σ_417 ρ_418 H locs hB fσ_417 pσ_417 hS => ?_)
                      have w_420 : 0 ≤ (σ_417 bl tx.toNatClampNeg).toInt ∧ (σ_417 bl tx.toNatClampNeg).toInt ≤ 400 := by have z := hB.2.1 bl mbl tx.toNatClampNeg; rw [tbl] at z; exact z
                      have k_421 : σ_417 h0 8 = (σ_394 h0 8) := (FR.at fσ_417 th0 (by decide)).trans rfl
                      have cq_422 : (σ_417 h0 8).toInt = (σ_394 h0 8).toInt := congrArg Int32.toInt k_421
                      have k_423 : σ_417 h0 1 = (σ h0 1) := (FR.at fσ_417 th0 (by decide)).trans k_412
                      have cq_424 : (σ_417 h0 1).toInt = (σ h0 1).toInt := congrArg Int32.toInt k_423
                      have k_425 : σ_417 h0 12 = (σ_394 h0 12) := (FR.at fσ_417 th0 (by decide)).trans rfl
                      have cq_426 : (σ_417 h0 12).toInt = (σ_394 h0 12).toInt := congrArg Int32.toInt k_425
                      have ex_427 := EX.tr ex_411 (PU.ex pσ_417 (by have z := hPL6; omega))
                      have R_428 : RLx σ σ_417 h0 bg bl tx 1 0 := RLx.bin (k := 0) (s := 0) R_415 pσ_417 (by have z := hPL6; omega) (FR.at fσ_417 th0 (by decide)) (FR.at fσ_417 th0 (by decide)) (stp_bin (by decide))
                      have R_428n := R_428.2.1
                      refine lv_iconst (v := 1) hx hb dX12_compare_173 (by decide) ?_
                      exact W.zret (v := 1) hx hb hr rfl (fun t ht hW => ⟨⟨1, (σ_417, ρ_418), rfl, ⟨hB.2.1, hB.2.2, ⟨(show 0 ≤ (1 : Int32).toInt ∧ (1 : Int32).toInt ≤ 1 from ⟨by decide, by decide⟩), (show (σ h0 8).toInt ≤ (σ_417 h0 8).toInt from (by rw [k_421]; omega)), (show EX (σ bg) (σ bl) (σ_417 bg) (σ_417 bl) tx from ex_427), (show (1 : Int32).toInt = 1 → RLx σ σ_417 h0 bg bl tx 1 0 from (fun h => R_428))⟩⟩, (show TP D cA L T r σ_417 ρ_418 t.heap from by rw [ht]; exact hB.1)⟩, hS.F ht⟩) hS.2.2 dX12_compare_174
                    · skip
                      have uc_414 := i_eq (n := 0) (by decide) c_414
                      refine lv_iconst (v := 0) hx hb dX12_compare_161 (by decide) ?_
                      exact W.zret (v := 0) hx hb hr rfl (fun t ht hW => ⟨⟨0, (σ_394, ρ_395), rfl, ⟨hB.2.1, hB.2.2, ⟨(show 0 ≤ (0 : Int32).toInt ∧ (0 : Int32).toInt ≤ 1 from ⟨by decide, by decide⟩), (show (σ h0 8).toInt ≤ (σ_394 h0 8).toInt from (by omega)), (show EX (σ bg) (σ bl) (σ_394 bg) (σ_394 bl) tx from ex_411), (show (0 : Int32).toInt = 1 → RLx σ σ_394 h0 bg bl tx 1 0 from (fun h => absurd h (by decide)))⟩⟩, (show TP D cA L T r σ_394 ρ_395 t.heap from by rw [ht]; exact hB.1)⟩, hS.F ht⟩) hS.2.2 dX12_compare_162
                  · skip
                    have uc_382 := i_eq (n := 61) (by decide) c_382
                    exfalso; omega
                · skip
                  have uc_381 := i_eq (n := 60) (by decide) c_381
                  exfalso; omega
              · skip
                have uc_380 := i_eq (n := 0) (by decide) c_380
                refine lv_iconst (v := 0) hx hb dX12_compare_113 (by decide) ?_
                have k_429 := FR.row fσ_20 tbg (fun j => by simp)
                have k_430a := congrFun eσ_357 bg
                rw [up2_row _ _ (tg_ne tbg th0 (by decide))] at k_430a
                have k_431 := FR.row fσ_368 tbg (fun j => by simp)
                have k_432 := FR.row fσ_20 tbl (fun j => by simp)
                have k_433a := congrFun eσ_357 bl
                rw [up2_row _ _ (tg_ne tbl th0 (by decide))] at k_433a
                have k_434 := FR.row fσ_368 tbl (fun j => by simp)
                have ex_435 : EX (σ bg) (σ bl) (σ_368 bg) (σ_368 bl) tx := by rw [((k_431).trans ((k_430a).trans (k_429))), ((k_434).trans ((k_433a).trans (k_432)))]; exact ex_15
                exact W.zret (v := 0) hx hb hr rfl (fun t ht hW => ⟨⟨0, (σ_368, ρ_369), rfl, ⟨hB.2.1, hB.2.2, ⟨(show 0 ≤ (0 : Int32).toInt ∧ (0 : Int32).toInt ≤ 1 from ⟨by decide, by decide⟩), (show (σ h0 8).toInt ≤ (σ_368 h0 8).toInt from (by rw [k_374]; omega)), (show EX (σ bg) (σ bl) (σ_368 bg) (σ_368 bl) tx from ex_435), (show (0 : Int32).toInt = 1 → RLx σ σ_368 h0 bg bl tx 1 0 from (fun h => absurd h (by decide)))⟩⟩, (show TP D cA L T r σ_368 ρ_369 t.heap from by rw [ht]; exact hB.1)⟩, hS.F ht⟩) hS.2.2 dX12_compare_114
            · skip
              have uc_361 := j_nle c_361
              refine lv_aload_n hx hb dX12_compare_71 rfl (lv_at hl 2 rfl) ?_
              refine t_gk hx hb hts hown hK hB mh0 th0 fq_12_0 hbt mw_5_216 dX12_compare_72 ?_
              refine lv_aload_n hx hb dX12_compare_75 rfl (lv_at hl 2 rfl) ?_
              refine t_gv hx hb hts hown hK hB mh0 th0 fi_12_8 k_358 mw_5_224 dX12_compare_76 ?_
              refine t_ab hx hb hK hB mbt tbt ai_61 (fun _ => rfl) (i_in (by omega) (by omega)) dX12_compare_79 (fun x_436 ex_436 lx_436 ux_436 => ?_)
              have cx_436 := congrArg Int32.toInt ex_436
              refine lv_bipush (v := 61) hx hb dX12_compare_80 (by decide) ?_
              refine lv_icmp_ne (tgt := 89) hx hb dX12_compare_82 (by decide) (fun c_437 => ?_) (fun c_437 => ?_)
              · skip
                have uc_437 := i_ne (n := 61) (by decide) c_437
                refine lv_iconst (v := 0) hx hb dX12_compare_89 (by decide) ?_
                refine lv_istore_n (lv' := [(3, .int 0), (2, .int (σ_20 h0 8)), (1, .int x_22), (0, .ref h0)]) hx hb dX12_compare_90 rfl hl (by decide) rfl (fun ls hl => ?_)
                refine lv_iload_n hx hb dX12_compare_91 rfl (lv_at hl 0 rfl) ?_
                refine lv_if_eq (tgt := 105) hx hb dX12_compare_92 (by decide) (fun _ => ?_) (fun c9 => absurd (by decide) c9)
                refine lv_aload_n hx hb dX12_compare_105 rfl (lv_at hl 3 rfl) ?_
                refine lv_iload_n hx hb dX12_compare_106 rfl (lv_at hl 1 rfl) ?_
                have cq_438 : (σ_357 h0 8).toInt = x_356.toInt := congrArg Int32.toInt k_358
                have cq_439 : (σ_357 h0 1).toInt = (σ h0 1).toInt := congrArg Int32.toInt k_360
                have k_440 : σ_357 h0 12 = (σ_5 h0 12) := by rw [eσ_357, up2_nej _ _ (by decide)]; exact k_30
                have cq_441 : (σ_357 h0 12).toInt = (σ_5 h0 12).toInt := congrArg Int32.toInt k_440
                have k_442 : σ_357 bl tx.toNatClampNeg = (σ_5 bl tx.toNatClampNeg) := by rw [eσ_357, up2_nea _ _ (tg_ne tbl th0 (by decide))]; exact k_32
                have cq_443 : (σ_357 bl tx.toNatClampNeg).toInt = (σ_5 bl tx.toNatClampNeg).toInt := congrArg Int32.toInt k_442
                refine t_ci (va_runV (As := [.int (σ_20 h0 8)]) (rest := []) ⟨hx, hb, hml, hown, hts⟩ (cz_X12_makes l D cA L T r hG hLA.1 σ_357 ρ_21 hB.2.1 _ h0 mh0 th0 ((σ_20 h0 8)) (by first | omega | decide) (by first | omega | decide)) (cV hts mv_X12_makes mw_6_229 rfl rfl ⟨Nat.le_of_ble_eq_true rfl, Nat.le_of_ble_eq_true rfl⟩) (pV hB.1 hK hN mh0 th0 (show shp cA 12 _ _ _ = .inr (12, Fs12 _ _ _) from rfl) rfl) rfl rfl hl.1 rfl (lv_room (Nat.le_of_ble_eq_true rfl)) dX12_compare_107 ⟨Nat.le_of_ble_eq_true rfl, Nat.le_of_ble_eq_true rfl⟩) hLA hA hB hS (by decide) (fun x_446 σ_444 ρ_445 H locs hB fσ_444 pσ_444 hS => ?_)
                obtain ⟨g_447, g_448⟩ := pσ_444
                have w_449 : 0 ≤ (σ_444 h0 12).toInt ∧ (σ_444 h0 12).toInt ≤ 60 := by have z := hB.2.1 h0 mh0 12; rw [th0] at z; exact z
                obtain ⟨lx_446, ux_446⟩ := g_447
                have k_450 : σ_444 h0 8 = x_356 := (FR.at fσ_444 th0 (by decide)).trans k_358
                have cq_451 : (σ_444 h0 8).toInt = x_356.toInt := congrArg Int32.toInt k_450
                have k_452 : σ_444 h0 1 = (σ h0 1) := (FR.at fσ_444 th0 (by decide)).trans k_360
                have cq_453 : (σ_444 h0 1).toInt = (σ h0 1).toInt := congrArg Int32.toInt k_452
                have k_454 : σ_444 bl tx.toNatClampNeg = (σ_5 bl tx.toNatClampNeg) := (FR.at fσ_444 tbl (by simp)).trans k_442
                have cq_455 : (σ_444 bl tx.toNatClampNeg).toInt = (σ_5 bl tx.toNatClampNeg).toInt := congrArg Int32.toInt k_454
                refine lv_if_ne (tgt := 115) hx hb dX12_compare_110 (by decide) (fun c_456 => ?_) (fun c_456 => ?_)
                · skip
                  have uc_456 := i_ne (n := 0) (by decide) c_456
                  refine lv_iload_n hx hb dX12_compare_115 rfl (lv_at hl 2 rfl) ?_
                  refine lv_bipush (v := 60) hx hb dX12_compare_116 (by decide) ?_
                  refine lv_icmp_ne (tgt := 133) hx hb dX12_compare_118 (by decide) (fun c_457 => ?_) (fun c_457 => ?_)
                  · skip
                    have uc_457 := i_ne (n := 60) (by decide) c_457
                    refine lv_iload_n hx hb dX12_compare_133 rfl (lv_at hl 2 rfl) ?_
                    refine lv_bipush (v := 61) hx hb dX12_compare_134 (by decide) ?_
                    refine lv_icmp_ne (tgt := 143) hx hb dX12_compare_136 (by decide) (fun c_458 => ?_) (fun c_458 => ?_)
                    · skip
                      have uc_458 := i_ne (n := 61) (by decide) c_458
                      refine lv_iload_n hx hb dX12_compare_143 rfl (lv_at hl 0 rfl) ?_
                      refine lv_if_eq (tgt := 151) hx hb dX12_compare_144 (by decide) (fun _ => ?_) (fun c9 => absurd (by decide) c9)
                      refine lv_iconst (v := 4) hx hb dX12_compare_151 (by decide) ?_
                      refine lv_istore (lv' := [(4, .int 4), (3, .int 0), (2, .int (σ_20 h0 8)), (1, .int x_22), (0, .ref h0)]) hx hb dX12_compare_152 hl (by decide) rfl (fun ls hl => ?_)
                      refine lv_aload_n hx hb dX12_compare_154 rfl (lv_at hl 4 rfl) ?_
                      have k_460 := FR.row fσ_20 tbg (fun j => by simp)
                      have k_461a := congrFun eσ_357 bg
                      rw [up2_row _ _ (tg_ne tbg th0 (by decide))] at k_461a
                      have k_462 := FR.row fσ_444 tbg (fun j => by simp)
                      have k_463 := FR.row fσ_20 tbl (fun j => by simp)
                      have k_464a := congrFun eσ_357 bl
                      rw [up2_row _ _ (tg_ne tbl th0 (by decide))] at k_464a
                      have k_465 := FR.row fσ_444 tbl (fun j => by simp)
                      have R_459 : RLx σ σ_444 h0 bg bl tx 1 1 := RLx.fr 1 R_19 ((k_462).trans ((k_461a).trans (k_460))) ((k_465).trans ((k_464a).trans (k_463))) (by omega) (by rw [k_450]; omega)
                      have R_459n := R_459.2.1
                      have k_466 : σ_5 h0 11 = tx := (FR.at fσ_5 th0 (by decide)).trans k0
                      have k_467 : σ_20 h0 11 = tx := (FR.at fσ_20 th0 (by decide)).trans k_466
                      have k_468 : σ_357 h0 11 = tx := by rw [eσ_357, up2_nej _ _ (by decide)]; exact k_467
                      have k_469 : σ_444 h0 11 = tx := (FR.at fσ_444 th0 (by decide)).trans k_468
                      refine t_ci (va_runV (As := []) (rest := []) ⟨hx, hb, hml, hown, hts⟩ (cz_X12_sum l D cA L T r hG hLA.1 σ_444 ρ_445 hB.2.1 _ h0 mh0 th0 bt hbt mbt tbt bg hbg mbg tbg bl hbl mbl tbl tx k_469 (by first | omega | decide) (by first | omega | decide) (by omega)) (cV hts mv_X12_sum mw_6_216 rfl rfl ⟨Nat.le_of_ble_eq_true rfl, Nat.le_of_ble_eq_true rfl⟩) (pV hB.1 hK hN mh0 th0 (show shp cA 12 _ _ _ = .inr (12, Fs12 _ _ _) from rfl) rfl) rfl rfl hl.1 rfl (lv_room (Nat.le_of_ble_eq_true rfl)) dX12_compare_155 ⟨Nat.le_of_ble_eq_true rfl, Nat.le_of_ble_eq_true rfl⟩) hLA hA hB hS (by decide) (fun x_472 σ_470 ρ_471 H locs hB fσ_470 pσ_470 hS => ?_)
                      obtain ⟨g_473, g_474, g_475, g_476⟩ := pσ_470
                      have w_477 : 0 ≤ (σ_470 bl tx.toNatClampNeg).toInt ∧ (σ_470 bl tx.toNatClampNeg).toInt ≤ 400 := by have z := hB.2.1 bl mbl tx.toNatClampNeg; rw [tbl] at z; exact z
                      have w_478 : 0 ≤ (σ_470 h0 8).toInt ∧ (σ_470 h0 8).toInt ≤ 400 := by have z := hB.2.1 h0 mh0 8; rw [th0] at z; exact z
                      have w_479 : 0 ≤ (σ_470 h0 12).toInt ∧ (σ_470 h0 12).toInt ≤ 60 := by have z := hB.2.1 h0 mh0 12; rw [th0] at z; exact z
                      have k_480 := FR.row fσ_20 tbg (fun j => by simp)
                      have k_481a := congrFun eσ_357 bg
                      rw [up2_row _ _ (tg_ne tbg th0 (by decide))] at k_481a
                      have k_482 := FR.row fσ_444 tbg (fun j => by simp)
                      have k_483 := FR.row fσ_20 tbl (fun j => by simp)
                      have k_484a := congrFun eσ_357 bl
                      rw [up2_row _ _ (tg_ne tbl th0 (by decide))] at k_484a
                      have k_485 := FR.row fσ_444 tbl (fun j => by simp)
                      have ex_486 : EX (σ bg) (σ bl) (σ_444 bg) (σ_444 bl) tx := by rw [((k_482).trans ((k_481a).trans (k_480))), ((k_485).trans ((k_484a).trans (k_483)))]; exact ex_15
                      have ex_487 := EX.tr ex_486 g_475
                      obtain ⟨lx_472, ux_472⟩ := g_473
                      have k_488 : σ_470 h0 1 = (σ h0 1) := (FR.at fσ_470 th0 (by decide)).trans k_452
                      have cq_489 : (σ_470 h0 1).toInt = (σ h0 1).toInt := congrArg Int32.toInt k_488
                      refine lv_if_ne (tgt := 163) hx hb dX12_compare_158 (by decide) (fun c_490 => ?_) (fun c_490 => ?_)
                      · skip
                        have uc_490 := i_ne (n := 0) (by decide) c_490
                        have R_491 : RLx σ σ_470 h0 bg bl tx 2 1 := RLx.tr R_459 (g_476 (by omega))
                        have R_491n := R_491.2.1
                        refine lv_aload_n hx hb dX12_compare_163 rfl (lv_at hl 4 rfl) ?_
                        refine lv_bipush (v := 6) hx hb dX12_compare_164 (by decide) ?_
                        refine lv_iload hx hb dX12_compare_166 (lv_at hl 0 rfl) ?_
                        refine lv_iadd hx hb dX12_compare_168 ?_
                        refine tp_i (w := 10) (by decide) ?_
                        refine lv_iconst (v := 0) hx hb dX12_compare_169 (by decide) ?_
                        have hPL6 : 0 ≤ (σ_470 bl tx.toNatClampNeg).toInt := (by omega)
                        have k_492 : σ_470 h0 11 = tx := (FR.at fσ_470 th0 (by decide)).trans k_469
                        refine t_cv (va_runV (As := [.int 10, .int 0]) (rest := []) ⟨hx, hb, hml, hown, hts⟩ (cz_X12_puts l D cA L T r hG hLA.1 σ_470 ρ_471 hB.2.1 _ h0 mh0 th0 10 0 bg hbg mbg tbg bl hbl mbl tbl tx k_492 (by first | omega | decide) (by first | omega | decide) (by omega)) (cV hts mv_X12_puts mw_6_233 rfl rfl ⟨Nat.le_of_ble_eq_true rfl, Nat.le_of_ble_eq_true rfl⟩) (pV hB.1 hK hN mh0 th0 (show shp cA 12 _ _ _ = .inr (12, Fs12 _ _ _) from rfl) rfl) rfl rfl hl.1 rfl (lv_room (Nat.le_of_ble_eq_true rfl)) dX12_compare_170 ⟨Nat.le_of_ble_eq_true rfl, Nat.le_of_ble_eq_true rfl⟩) hLA hA hB hS (by decide) (fun σ_493 ρ_494 H locs hB fσ_493 pσ_493 hS => ?_)
                        have w_496 : 0 ≤ (σ_493 bl tx.toNatClampNeg).toInt ∧ (σ_493 bl tx.toNatClampNeg).toInt ≤ 400 := by have z := hB.2.1 bl mbl tx.toNatClampNeg; rw [tbl] at z; exact z
                        have k_497 : σ_493 h0 8 = (σ_470 h0 8) := (FR.at fσ_493 th0 (by decide)).trans rfl
                        have cq_498 : (σ_493 h0 8).toInt = (σ_470 h0 8).toInt := congrArg Int32.toInt k_497
                        have k_499 : σ_493 h0 1 = (σ h0 1) := (FR.at fσ_493 th0 (by decide)).trans k_488
                        have cq_500 : (σ_493 h0 1).toInt = (σ h0 1).toInt := congrArg Int32.toInt k_499
                        have k_501 : σ_493 h0 12 = (σ_470 h0 12) := (FR.at fσ_493 th0 (by decide)).trans rfl
                        have cq_502 : (σ_493 h0 12).toInt = (σ_470 h0 12).toInt := congrArg Int32.toInt k_501
                        have ex_503 := EX.tr ex_487 (PU.ex pσ_493 (by have z := hPL6; omega))
                        have R_504 : RLx σ σ_493 h0 bg bl tx 1 0 := RLx.bin (k := 0) (s := 0) R_491 pσ_493 (by have z := hPL6; omega) (FR.at fσ_493 th0 (by decide)) (FR.at fσ_493 th0 (by decide)) (stp_bin (by decide))
                        have R_504n := R_504.2.1
                        refine lv_iconst (v := 1) hx hb dX12_compare_173 (by decide) ?_
                        exact W.zret (v := 1) hx hb hr rfl (fun t ht hW => ⟨⟨1, (σ_493, ρ_494), rfl, ⟨hB.2.1, hB.2.2, ⟨(show 0 ≤ (1 : Int32).toInt ∧ (1 : Int32).toInt ≤ 1 from ⟨by decide, by decide⟩), (show (σ h0 8).toInt ≤ (σ_493 h0 8).toInt from (by rw [k_497]; omega)), (show EX (σ bg) (σ bl) (σ_493 bg) (σ_493 bl) tx from ex_503), (show (1 : Int32).toInt = 1 → RLx σ σ_493 h0 bg bl tx 1 0 from (fun h => R_504))⟩⟩, (show TP D cA L T r σ_493 ρ_494 t.heap from by rw [ht]; exact hB.1)⟩, hS.F ht⟩) hS.2.2 dX12_compare_174
                      · skip
                        have uc_490 := i_eq (n := 0) (by decide) c_490
                        refine lv_iconst (v := 0) hx hb dX12_compare_161 (by decide) ?_
                        exact W.zret (v := 0) hx hb hr rfl (fun t ht hW => ⟨⟨0, (σ_470, ρ_471), rfl, ⟨hB.2.1, hB.2.2, ⟨(show 0 ≤ (0 : Int32).toInt ∧ (0 : Int32).toInt ≤ 1 from ⟨by decide, by decide⟩), (show (σ h0 8).toInt ≤ (σ_470 h0 8).toInt from (by omega)), (show EX (σ bg) (σ bl) (σ_470 bg) (σ_470 bl) tx from ex_487), (show (0 : Int32).toInt = 1 → RLx σ σ_470 h0 bg bl tx 1 0 from (fun h => absurd h (by decide)))⟩⟩, (show TP D cA L T r σ_470 ρ_471 t.heap from by rw [ht]; exact hB.1)⟩, hS.F ht⟩) hS.2.2 dX12_compare_162
                    · skip
                      have uc_458 := i_eq (n := 61) (by decide) c_458
                      exfalso; omega
                  · skip
                    have uc_457 := i_eq (n := 60) (by decide) c_457
                    exfalso; omega
                · skip
                  have uc_456 := i_eq (n := 0) (by decide) c_456
                  refine lv_iconst (v := 0) hx hb dX12_compare_113 (by decide) ?_
                  have k_505 := FR.row fσ_20 tbg (fun j => by simp)
                  have k_506a := congrFun eσ_357 bg
                  rw [up2_row _ _ (tg_ne tbg th0 (by decide))] at k_506a
                  have k_507 := FR.row fσ_444 tbg (fun j => by simp)
                  have k_508 := FR.row fσ_20 tbl (fun j => by simp)
                  have k_509a := congrFun eσ_357 bl
                  rw [up2_row _ _ (tg_ne tbl th0 (by decide))] at k_509a
                  have k_510 := FR.row fσ_444 tbl (fun j => by simp)
                  have ex_511 : EX (σ bg) (σ bl) (σ_444 bg) (σ_444 bl) tx := by rw [((k_507).trans ((k_506a).trans (k_505))), ((k_510).trans ((k_509a).trans (k_508)))]; exact ex_15
                  exact W.zret (v := 0) hx hb hr rfl (fun t ht hW => ⟨⟨0, (σ_444, ρ_445), rfl, ⟨hB.2.1, hB.2.2, ⟨(show 0 ≤ (0 : Int32).toInt ∧ (0 : Int32).toInt ≤ 1 from ⟨by decide, by decide⟩), (show (σ h0 8).toInt ≤ (σ_444 h0 8).toInt from (by rw [k_450]; omega)), (show EX (σ bg) (σ bl) (σ_444 bg) (σ_444 bl) tx from ex_511), (show (0 : Int32).toInt = 1 → RLx σ σ_444 h0 bg bl tx 1 0 from (fun h => absurd h (by decide)))⟩⟩, (show TP D cA L T r σ_444 ρ_445 t.heap from by rw [ht]; exact hB.1)⟩, hS.F ht⟩) hS.2.2 dX12_compare_114
              · skip
                have uc_437 := i_eq (n := 61) (by decide) c_437
                refine lv_iconst (v := 1) hx hb dX12_compare_85 (by decide) ?_
                refine lv_goto (tgt := 90) hx hb dX12_compare_86 (by decide) ?_
                refine lv_istore_n (lv' := [(3, .int 1), (2, .int (σ_20 h0 8)), (1, .int x_22), (0, .ref h0)]) hx hb dX12_compare_90 rfl hl (by decide) rfl (fun ls hl => ?_)
                refine lv_iload_n hx hb dX12_compare_91 rfl (lv_at hl 0 rfl) ?_
                refine lv_if_eq (tgt := 105) hx hb dX12_compare_92 (by decide) (fun c9 => absurd c9 (by decide)) (fun _ => ?_)
                refine lv_aload_n hx hb dX12_compare_95 rfl (lv_at hl 3 rfl) ?_
                refine lv_dup hx hb dX12_compare_96 rfl ?_
                refine t_gv hx hb hts hown hK hB mh0 th0 fi_12_8 k_358 mw_5_224 dX12_compare_97 ?_
                refine lv_iconst (v := 1) hx hb dX12_compare_100 (by decide) ?_
                refine lv_iadd hx hb dX12_compare_101 ?_
                refine lv_topi (fun x_512 ex_512 => ?_)
                have vx_512 := b_add (rfl : x_356.toInt = _) (by decide : (1 : Int32).toInt = 1) ex_512 (by omega) (by omega)
                refine t_pi hx hb hts hown hK hLA hB hS mh0 th0 fi_12_8 rfl rfl rfl (by first | omega | (subst_vars; omega)) (by first | omega | (subst_vars; omega)) (Or.inl (by decide)) mw_5_224 dX12_compare_102 (fun H locs σ_513 eσ_513 hB hS => ?_)
                have k_514 : σ_513 h0 8 = x_512 := by rw [eσ_513]; exact up2_same _ _ _ _
                refine lv_aload_n hx hb dX12_compare_105 rfl (lv_at hl 3 rfl) ?_
                refine lv_iload_n hx hb dX12_compare_106 rfl (lv_at hl 1 rfl) ?_
                have cq_515 : (σ_513 h0 8).toInt = x_512.toInt := congrArg Int32.toInt k_514
                have k_516 : σ_513 h0 1 = (σ h0 1) := by rw [eσ_513, up2_nej _ _ (by decide)]; exact k_360
                have cq_517 : (σ_513 h0 1).toInt = (σ h0 1).toInt := congrArg Int32.toInt k_516
                have k_518 : σ_357 h0 12 = (σ_5 h0 12) := by rw [eσ_357, up2_nej _ _ (by decide)]; exact k_30
                have k_519 : σ_513 h0 12 = (σ_5 h0 12) := by rw [eσ_513, up2_nej _ _ (by decide)]; exact k_518
                have cq_520 : (σ_513 h0 12).toInt = (σ_5 h0 12).toInt := congrArg Int32.toInt k_519
                have k_521 : σ_357 bl tx.toNatClampNeg = (σ_5 bl tx.toNatClampNeg) := by rw [eσ_357, up2_nea _ _ (tg_ne tbl th0 (by decide))]; exact k_32
                have k_522 : σ_513 bl tx.toNatClampNeg = (σ_5 bl tx.toNatClampNeg) := by rw [eσ_513, up2_nea _ _ (tg_ne tbl th0 (by decide))]; exact k_521
                have cq_523 : (σ_513 bl tx.toNatClampNeg).toInt = (σ_5 bl tx.toNatClampNeg).toInt := congrArg Int32.toInt k_522
                refine t_ci (va_runV (As := [.int (σ_20 h0 8)]) (rest := []) ⟨hx, hb, hml, hown, hts⟩ (cz_X12_makes l D cA L T r hG hLA.1 σ_513 ρ_21 hB.2.1 _ h0 mh0 th0 ((σ_20 h0 8)) (by first | omega | decide) (by first | omega | decide)) (cV hts mv_X12_makes mw_6_229 rfl rfl ⟨Nat.le_of_ble_eq_true rfl, Nat.le_of_ble_eq_true rfl⟩) (pV hB.1 hK hN mh0 th0 (show shp cA 12 _ _ _ = .inr (12, Fs12 _ _ _) from rfl) rfl) rfl rfl hl.1 rfl (lv_room (Nat.le_of_ble_eq_true rfl)) dX12_compare_107 ⟨Nat.le_of_ble_eq_true rfl, Nat.le_of_ble_eq_true rfl⟩) hLA hA hB hS (by decide) (fun x_526 σ_524 ρ_525 H locs hB fσ_524 pσ_524 hS => ?_)
                obtain ⟨g_527, g_528⟩ := pσ_524
                have w_529 : 0 ≤ (σ_524 h0 12).toInt ∧ (σ_524 h0 12).toInt ≤ 60 := by have z := hB.2.1 h0 mh0 12; rw [th0] at z; exact z
                obtain ⟨lx_526, ux_526⟩ := g_527
                have k_530 : σ_524 h0 8 = x_512 := (FR.at fσ_524 th0 (by decide)).trans k_514
                have cq_531 : (σ_524 h0 8).toInt = x_512.toInt := congrArg Int32.toInt k_530
                have k_532 : σ_524 h0 1 = (σ h0 1) := (FR.at fσ_524 th0 (by decide)).trans k_516
                have cq_533 : (σ_524 h0 1).toInt = (σ h0 1).toInt := congrArg Int32.toInt k_532
                have k_534 : σ_524 bl tx.toNatClampNeg = (σ_5 bl tx.toNatClampNeg) := (FR.at fσ_524 tbl (by simp)).trans k_522
                have cq_535 : (σ_524 bl tx.toNatClampNeg).toInt = (σ_5 bl tx.toNatClampNeg).toInt := congrArg Int32.toInt k_534
                refine lv_if_ne (tgt := 115) hx hb dX12_compare_110 (by decide) (fun c_536 => ?_) (fun c_536 => ?_)
                · skip
                  have uc_536 := i_ne (n := 0) (by decide) c_536
                  refine lv_iload_n hx hb dX12_compare_115 rfl (lv_at hl 2 rfl) ?_
                  refine lv_bipush (v := 60) hx hb dX12_compare_116 (by decide) ?_
                  refine lv_icmp_ne (tgt := 133) hx hb dX12_compare_118 (by decide) (fun c_537 => ?_) (fun c_537 => ?_)
                  · skip
                    have uc_537 := i_ne (n := 60) (by decide) c_537
                    refine lv_iload_n hx hb dX12_compare_133 rfl (lv_at hl 2 rfl) ?_
                    refine lv_bipush (v := 61) hx hb dX12_compare_134 (by decide) ?_
                    refine lv_icmp_ne (tgt := 143) hx hb dX12_compare_136 (by decide) (fun c_538 => ?_) (fun c_538 => ?_)
                    · skip
                      have uc_538 := i_ne (n := 61) (by decide) c_538
                      refine lv_iload_n hx hb dX12_compare_143 rfl (lv_at hl 0 rfl) ?_
                      refine lv_if_eq (tgt := 151) hx hb dX12_compare_144 (by decide) (fun c9 => absurd c9 (by decide)) (fun _ => ?_)
                      refine lv_iconst (v := 3) hx hb dX12_compare_147 (by decide) ?_
                      refine lv_goto (tgt := 152) hx hb dX12_compare_148 (by decide) ?_
                      refine lv_istore (lv' := [(4, .int 3), (3, .int 1), (2, .int (σ_20 h0 8)), (1, .int x_22), (0, .ref h0)]) hx hb dX12_compare_152 hl (by decide) rfl (fun ls hl => ?_)
                      refine lv_aload_n hx hb dX12_compare_154 rfl (lv_at hl 4 rfl) ?_
                      have k_540 := FR.row fσ_20 tbg (fun j => by simp)
                      have k_541a := congrFun eσ_357 bg
                      rw [up2_row _ _ (tg_ne tbg th0 (by decide))] at k_541a
                      have k_542a := congrFun eσ_513 bg
                      rw [up2_row _ _ (tg_ne tbg th0 (by decide))] at k_542a
                      have k_543 := FR.row fσ_524 tbg (fun j => by simp)
                      have k_544 := FR.row fσ_20 tbl (fun j => by simp)
                      have k_545a := congrFun eσ_357 bl
                      rw [up2_row _ _ (tg_ne tbl th0 (by decide))] at k_545a
                      have k_546a := congrFun eσ_513 bl
                      rw [up2_row _ _ (tg_ne tbl th0 (by decide))] at k_546a
                      have k_547 := FR.row fσ_524 tbl (fun j => by simp)
                      have R_539 : RLx σ σ_524 h0 bg bl tx 1 1 := RLx.fr 1 R_19 ((k_543).trans ((k_542a).trans ((k_541a).trans (k_540)))) ((k_547).trans ((k_546a).trans ((k_545a).trans (k_544)))) (by omega) (by rw [k_530]; omega)
                      have R_539n := R_539.2.1
                      have k_548 : σ_5 h0 11 = tx := (FR.at fσ_5 th0 (by decide)).trans k0
                      have k_549 : σ_20 h0 11 = tx := (FR.at fσ_20 th0 (by decide)).trans k_548
                      have k_550 : σ_357 h0 11 = tx := by rw [eσ_357, up2_nej _ _ (by decide)]; exact k_549
                      have k_551 : σ_513 h0 11 = tx := by rw [eσ_513, up2_nej _ _ (by decide)]; exact k_550
                      have k_552 : σ_524 h0 11 = tx := (FR.at fσ_524 th0 (by decide)).trans k_551
                      refine t_ci (va_runV (As := []) (rest := []) ⟨hx, hb, hml, hown, hts⟩ (cz_X12_sum l D cA L T r hG hLA.1 σ_524 ρ_525 hB.2.1 _ h0 mh0 th0 bt hbt mbt tbt bg hbg mbg tbg bl hbl mbl tbl tx k_552 (by first | omega | decide) (by first | omega | decide) (by omega)) (cV hts mv_X12_sum mw_6_216 rfl rfl ⟨Nat.le_of_ble_eq_true rfl, Nat.le_of_ble_eq_true rfl⟩) (pV hB.1 hK hN mh0 th0 (show shp cA 12 _ _ _ = .inr (12, Fs12 _ _ _) from rfl) rfl) rfl rfl hl.1 rfl (lv_room (Nat.le_of_ble_eq_true rfl)) dX12_compare_155 ⟨Nat.le_of_ble_eq_true rfl, Nat.le_of_ble_eq_true rfl⟩) hLA hA hB hS (by decide) (fun x_555 σ_553 ρ_554 H locs hB fσ_553 pσ_553 hS => ?_)
                      obtain ⟨g_556, g_557, g_558, g_559⟩ := pσ_553
                      have w_560 : 0 ≤ (σ_553 bl tx.toNatClampNeg).toInt ∧ (σ_553 bl tx.toNatClampNeg).toInt ≤ 400 := by have z := hB.2.1 bl mbl tx.toNatClampNeg; rw [tbl] at z; exact z
                      have w_561 : 0 ≤ (σ_553 h0 8).toInt ∧ (σ_553 h0 8).toInt ≤ 400 := by have z := hB.2.1 h0 mh0 8; rw [th0] at z; exact z
                      have w_562 : 0 ≤ (σ_553 h0 12).toInt ∧ (σ_553 h0 12).toInt ≤ 60 := by have z := hB.2.1 h0 mh0 12; rw [th0] at z; exact z
                      have k_563 := FR.row fσ_20 tbg (fun j => by simp)
                      have k_564a := congrFun eσ_357 bg
                      rw [up2_row _ _ (tg_ne tbg th0 (by decide))] at k_564a
                      have k_565a := congrFun eσ_513 bg
                      rw [up2_row _ _ (tg_ne tbg th0 (by decide))] at k_565a
                      have k_566 := FR.row fσ_524 tbg (fun j => by simp)
                      have k_567 := FR.row fσ_20 tbl (fun j => by simp)
                      have k_568a := congrFun eσ_357 bl
                      rw [up2_row _ _ (tg_ne tbl th0 (by decide))] at k_568a
                      have k_569a := congrFun eσ_513 bl
                      rw [up2_row _ _ (tg_ne tbl th0 (by decide))] at k_569a
                      have k_570 := FR.row fσ_524 tbl (fun j => by simp)
                      have ex_571 : EX (σ bg) (σ bl) (σ_524 bg) (σ_524 bl) tx := by rw [((k_566).trans ((k_565a).trans ((k_564a).trans (k_563)))), ((k_570).trans ((k_569a).trans ((k_568a).trans (k_567))))]; exact ex_15
                      have ex_572 := EX.tr ex_571 g_558
                      obtain ⟨lx_555, ux_555⟩ := g_556
                      have k_573 : σ_553 h0 1 = (σ h0 1) := (FR.at fσ_553 th0 (by decide)).trans k_532
                      have cq_574 : (σ_553 h0 1).toInt = (σ h0 1).toInt := congrArg Int32.toInt k_573
                      refine lv_if_ne (tgt := 163) hx hb dX12_compare_158 (by decide) (fun c_575 => ?_) (fun c_575 => ?_)
                      · skip
                        have uc_575 := i_ne (n := 0) (by decide) c_575
                        have R_576 : RLx σ σ_553 h0 bg bl tx 2 1 := RLx.tr R_539 (g_559 (by omega))
                        have R_576n := R_576.2.1
                        refine lv_aload_n hx hb dX12_compare_163 rfl (lv_at hl 4 rfl) ?_
                        refine lv_bipush (v := 6) hx hb dX12_compare_164 (by decide) ?_
                        refine lv_iload hx hb dX12_compare_166 (lv_at hl 0 rfl) ?_
                        refine lv_iadd hx hb dX12_compare_168 ?_
                        refine tp_i (w := 9) (by decide) ?_
                        refine lv_iconst (v := 0) hx hb dX12_compare_169 (by decide) ?_
                        have hPL7 : 0 ≤ (σ_553 bl tx.toNatClampNeg).toInt := (by omega)
                        have k_577 : σ_553 h0 11 = tx := (FR.at fσ_553 th0 (by decide)).trans k_552
                        refine t_cv (va_runV (As := [.int 9, .int 0]) (rest := []) ⟨hx, hb, hml, hown, hts⟩ (cz_X12_puts l D cA L T r hG hLA.1 σ_553 ρ_554 hB.2.1 _ h0 mh0 th0 9 0 bg hbg mbg tbg bl hbl mbl tbl tx k_577 (by first | omega | decide) (by first | omega | decide) (by omega)) (cV hts mv_X12_puts mw_6_233 rfl rfl ⟨Nat.le_of_ble_eq_true rfl, Nat.le_of_ble_eq_true rfl⟩) (pV hB.1 hK hN mh0 th0 (show shp cA 12 _ _ _ = .inr (12, Fs12 _ _ _) from rfl) rfl) rfl rfl hl.1 rfl (lv_room (Nat.le_of_ble_eq_true rfl)) dX12_compare_170 ⟨Nat.le_of_ble_eq_true rfl, Nat.le_of_ble_eq_true rfl⟩) hLA hA hB hS (by decide) (fun σ_578 ρ_579 H locs hB fσ_578 pσ_578 hS => ?_)
                        have w_581 : 0 ≤ (σ_578 bl tx.toNatClampNeg).toInt ∧ (σ_578 bl tx.toNatClampNeg).toInt ≤ 400 := by have z := hB.2.1 bl mbl tx.toNatClampNeg; rw [tbl] at z; exact z
                        have k_582 : σ_578 h0 8 = (σ_553 h0 8) := (FR.at fσ_578 th0 (by decide)).trans rfl
                        have cq_583 : (σ_578 h0 8).toInt = (σ_553 h0 8).toInt := congrArg Int32.toInt k_582
                        have k_584 : σ_578 h0 1 = (σ h0 1) := (FR.at fσ_578 th0 (by decide)).trans k_573
                        have cq_585 : (σ_578 h0 1).toInt = (σ h0 1).toInt := congrArg Int32.toInt k_584
                        have k_586 : σ_578 h0 12 = (σ_553 h0 12) := (FR.at fσ_578 th0 (by decide)).trans rfl
                        have cq_587 : (σ_578 h0 12).toInt = (σ_553 h0 12).toInt := congrArg Int32.toInt k_586
                        have ex_588 := EX.tr ex_572 (PU.ex pσ_578 (by have z := hPL7; omega))
                        have R_589 : RLx σ σ_578 h0 bg bl tx 1 0 := RLx.bin (k := 0) (s := 0) R_576 pσ_578 (by have z := hPL7; omega) (FR.at fσ_578 th0 (by decide)) (FR.at fσ_578 th0 (by decide)) (stp_bin (by decide))
                        have R_589n := R_589.2.1
                        refine lv_iconst (v := 1) hx hb dX12_compare_173 (by decide) ?_
                        exact W.zret (v := 1) hx hb hr rfl (fun t ht hW => ⟨⟨1, (σ_578, ρ_579), rfl, ⟨hB.2.1, hB.2.2, ⟨(show 0 ≤ (1 : Int32).toInt ∧ (1 : Int32).toInt ≤ 1 from ⟨by decide, by decide⟩), (show (σ h0 8).toInt ≤ (σ_578 h0 8).toInt from (by rw [k_582]; omega)), (show EX (σ bg) (σ bl) (σ_578 bg) (σ_578 bl) tx from ex_588), (show (1 : Int32).toInt = 1 → RLx σ σ_578 h0 bg bl tx 1 0 from (fun h => R_589))⟩⟩, (show TP D cA L T r σ_578 ρ_579 t.heap from by rw [ht]; exact hB.1)⟩, hS.F ht⟩) hS.2.2 dX12_compare_174
                      · skip
                        have uc_575 := i_eq (n := 0) (by decide) c_575
                        refine lv_iconst (v := 0) hx hb dX12_compare_161 (by decide) ?_
                        exact W.zret (v := 0) hx hb hr rfl (fun t ht hW => ⟨⟨0, (σ_553, ρ_554), rfl, ⟨hB.2.1, hB.2.2, ⟨(show 0 ≤ (0 : Int32).toInt ∧ (0 : Int32).toInt ≤ 1 from ⟨by decide, by decide⟩), (show (σ h0 8).toInt ≤ (σ_553 h0 8).toInt from (by omega)), (show EX (σ bg) (σ bl) (σ_553 bg) (σ_553 bl) tx from ex_572), (show (0 : Int32).toInt = 1 → RLx σ σ_553 h0 bg bl tx 1 0 from (fun h => absurd h (by decide)))⟩⟩, (show TP D cA L T r σ_553 ρ_554 t.heap from by rw [ht]; exact hB.1)⟩, hS.F ht⟩) hS.2.2 dX12_compare_162
                    · skip
                      have uc_538 := i_eq (n := 61) (by decide) c_538
                      exfalso; omega
                  · skip
                    have uc_537 := i_eq (n := 60) (by decide) c_537
                    exfalso; omega
                · skip
                  have uc_536 := i_eq (n := 0) (by decide) c_536
                  refine lv_iconst (v := 0) hx hb dX12_compare_113 (by decide) ?_
                  have k_590 := FR.row fσ_20 tbg (fun j => by simp)
                  have k_591a := congrFun eσ_357 bg
                  rw [up2_row _ _ (tg_ne tbg th0 (by decide))] at k_591a
                  have k_592a := congrFun eσ_513 bg
                  rw [up2_row _ _ (tg_ne tbg th0 (by decide))] at k_592a
                  have k_593 := FR.row fσ_524 tbg (fun j => by simp)
                  have k_594 := FR.row fσ_20 tbl (fun j => by simp)
                  have k_595a := congrFun eσ_357 bl
                  rw [up2_row _ _ (tg_ne tbl th0 (by decide))] at k_595a
                  have k_596a := congrFun eσ_513 bl
                  rw [up2_row _ _ (tg_ne tbl th0 (by decide))] at k_596a
                  have k_597 := FR.row fσ_524 tbl (fun j => by simp)
                  have ex_598 : EX (σ bg) (σ bl) (σ_524 bg) (σ_524 bl) tx := by rw [((k_593).trans ((k_592a).trans ((k_591a).trans (k_590)))), ((k_597).trans ((k_596a).trans ((k_595a).trans (k_594))))]; exact ex_15
                  exact W.zret (v := 0) hx hb hr rfl (fun t ht hW => ⟨⟨0, (σ_524, ρ_525), rfl, ⟨hB.2.1, hB.2.2, ⟨(show 0 ≤ (0 : Int32).toInt ∧ (0 : Int32).toInt ≤ 1 from ⟨by decide, by decide⟩), (show (σ h0 8).toInt ≤ (σ_524 h0 8).toInt from (by rw [k_530]; omega)), (show EX (σ bg) (σ bl) (σ_524 bg) (σ_524 bl) tx from ex_598), (show (0 : Int32).toInt = 1 → RLx σ σ_524 h0 bg bl tx 1 0 from (fun h => absurd h (by decide)))⟩⟩, (show TP D cA L T r σ_524 ρ_525 t.heap from by rw [ht]; exact hB.1)⟩, hS.F ht⟩) hS.2.2 dX12_compare_114
        · skip
          have uc_355 := i_ne (n := 62) (by decide) c_355
          refine lv_aload_n hx hb dX12_compare_37 rfl (lv_at hl 2 rfl) ?_
          refine lv_iconst (v := 0) hx hb dX12_compare_38 (by decide) ?_
          refine lv_iload_n hx hb dX12_compare_39 rfl (lv_at hl 0 rfl) ?_
          refine t_ci (va_runV (As := [.int 0, .int (σ_20 h0 8)]) (rest := []) ⟨hx, hb, hml, hown, hts⟩ (cy_X12_fails l D cA L T r hG hLA.1 σ_20 ρ_21 hB.2.1 _ h0 mh0 th0 0 ((σ_20 h0 8)) (by first | omega | decide) (by first | omega | decide) (by first | omega | decide) (by first | omega | decide)) (cV hts mv_X12_fails mw_6_157 rfl rfl ⟨Nat.le_of_ble_eq_true rfl, Nat.le_of_ble_eq_true rfl⟩) (pV hB.1 hK hN mh0 th0 (show shp cA 12 _ _ _ = .inr (12, Fs12 _ _ _) from rfl) rfl) rfl rfl hl.1 rfl (lv_room (Nat.le_of_ble_eq_true rfl)) dX12_compare_40 ⟨Nat.le_of_ble_eq_true rfl, Nat.le_of_ble_eq_true rfl⟩) hLA hA hB hS (by decide) (fun x_601 σ_599 ρ_600 H locs hB fσ_599 pσ_599 hS => ?_)
          subst pσ_599
          have k_602 : σ_599 h0 8 = (σ_20 h0 8) := (FR.at fσ_599 th0 (by decide)).trans rfl
          have cq_603 : (σ_599 h0 8).toInt = (σ_20 h0 8).toInt := congrArg Int32.toInt k_602
          have k_604 : σ_599 h0 1 = (σ h0 1) := (FR.at fσ_599 th0 (by decide)).trans k_28
          have cq_605 : (σ_599 h0 1).toInt = (σ h0 1).toInt := congrArg Int32.toInt k_604
          have k_606 : σ_599 h0 12 = (σ_5 h0 12) := (FR.at fσ_599 th0 (by decide)).trans k_30
          have cq_607 : (σ_599 h0 12).toInt = (σ_5 h0 12).toInt := congrArg Int32.toInt k_606
          have k_608 : σ_599 bl tx.toNatClampNeg = (σ_5 bl tx.toNatClampNeg) := (FR.at fσ_599 tbl (by simp)).trans k_32
          have cq_609 : (σ_599 bl tx.toNatClampNeg).toInt = (σ_5 bl tx.toNatClampNeg).toInt := congrArg Int32.toInt k_608
          have k_610 := FR.row fσ_20 tbg (fun j => by simp)
          have k_611 := FR.row fσ_599 tbg (fun j => by simp)
          have k_612 := FR.row fσ_20 tbl (fun j => by simp)
          have k_613 := FR.row fσ_599 tbl (fun j => by simp)
          have ex_614 : EX (σ bg) (σ bl) (σ_599 bg) (σ_599 bl) tx := by rw [((k_611).trans (k_610)), ((k_613).trans (k_612))]; exact ex_15
          exact W.zret (v := 0) hx hb hr rfl (fun t ht hW => ⟨⟨0, (σ_599, ρ_600), rfl, ⟨hB.2.1, hB.2.2, ⟨(show 0 ≤ (0 : Int32).toInt ∧ (0 : Int32).toInt ≤ 1 from ⟨by decide, by decide⟩), (show (σ h0 8).toInt ≤ (σ_599 h0 8).toInt from (by rw [k_602]; omega)), (show EX (σ bg) (σ bl) (σ_599 bg) (σ_599 bl) tx from ex_614), (show (0 : Int32).toInt = 1 → RLx σ σ_599 h0 bg bl tx 1 0 from (fun h => absurd h (by decide)))⟩⟩, (show TP D cA L T r σ_599 ρ_600 t.heap from by rw [ht]; exact hB.1)⟩, hS.F ht⟩) hS.2.2 dX12_compare_43
  · skip
    have uc_18 := i_eq (n := 0) (by decide) c_18
    refine lv_iconst (v := 0) hx hb dX12_compare_7 (by decide) ?_
    exact W.zret (v := 0) hx hb hr rfl (fun t ht hW => ⟨⟨0, (σ_5, ρ_6), rfl, ⟨hB.2.1, hB.2.2, ⟨(show 0 ≤ (0 : Int32).toInt ∧ (0 : Int32).toInt ≤ 1 from ⟨by decide, by decide⟩), (show (σ h0 8).toInt ≤ (σ_5 h0 8).toInt from (by omega)), (show EX (σ bg) (σ bl) (σ_5 bg) (σ_5 bl) tx from ex_15), (show (0 : Int32).toInt = 1 → RLx σ σ_5 h0 bg bl tx 1 0 from (fun h => absurd h (by decide)))⟩⟩, (show TP D cA L T r σ_5 ρ_6 t.heap from by rw [ht]; exact hB.1)⟩, hS.F ht⟩) hS.2.2 dX12_compare_8
theorem mw_5_229 : (.fieldLink RX12 160 "HillBendsModel" "deep" "I" : Cond) ∈ wsA := wsA_t (List.mem_append_right _ (List.mem_append_right _ (List.mem_append_right _ (List.mem_append_right _ (List.mem_append_left _ (List.mem_of_getElem? (l := tables_1_5) (i := 229) rfl)))))) rfl
theorem dX12_opens_0 : decode cX12_opens 0 = .ok (.aload_n 0, 1) := by decide +kernel
theorem dX12_opens_1 : decode cX12_opens 1 = .ok (.getfield 160, 3) := by decide +kernel
theorem dX12_opens_4 : decode cX12_opens 4 = .ok (.bipush 10, 2) := by decide +kernel
theorem dX12_opens_6 : decode cX12_opens 6 = .ok (.if_icmp .ne 13, 3) := by decide +kernel
theorem dX12_opens_19 : decode cX12_opens 19 = .ok (.aload_n 0, 1) := by decide +kernel
theorem dX12_opens_20 : decode cX12_opens 20 = .ok (.dup, 1) := by decide +kernel
theorem dX12_opens_21 : decode cX12_opens 21 = .ok (.getfield 160, 3) := by decide +kernel
theorem dX12_opens_24 : decode cX12_opens 24 = .ok (.iconst 1, 1) := by decide +kernel
theorem dX12_opens_25 : decode cX12_opens 25 = .ok (.iadd, 1) := by decide +kernel
theorem dX12_opens_26 : decode cX12_opens 26 = .ok (.putfield 160, 3) := by decide +kernel
theorem dX12_opens_29 : decode cX12_opens 29 = .ok (.aload_n 0, 1) := by decide +kernel
theorem dX12_opens_30 : decode cX12_opens 30 = .ok (.getfield 29, 3) := by decide +kernel
theorem dX12_opens_33 : decode cX12_opens 33 = .ok (.aload_n 0, 1) := by decide +kernel
theorem dX12_opens_34 : decode cX12_opens 34 = .ok (.getfield 163, 3) := by decide +kernel
theorem dX12_opens_37 : decode cX12_opens 37 = .ok (.iload_n 1, 1) := by decide +kernel
theorem dX12_opens_38 : decode cX12_opens 38 = .ok (.iastore, 1) := by decide +kernel
theorem dX12_opens_39 : decode cX12_opens 39 = .ok (.aload_n 0, 1) := by decide +kernel
theorem dX12_opens_40 : decode cX12_opens 40 = .ok (.dup, 1) := by decide +kernel
theorem dX12_opens_41 : decode cX12_opens 41 = .ok (.getfield 163, 3) := by decide +kernel
theorem dX12_opens_44 : decode cX12_opens 44 = .ok (.iconst 1, 1) := by decide +kernel
theorem dX12_opens_45 : decode cX12_opens 45 = .ok (.iadd, 1) := by decide +kernel
theorem dX12_opens_46 : decode cX12_opens 46 = .ok (.putfield 163, 3) := by decide +kernel
theorem dX12_opens_49 : decode cX12_opens 49 = .ok (.iconst 1, 1) := by decide +kernel
theorem dX12_opens_50 : decode cX12_opens 50 = .ok (.ireturn, 1) := by decide +kernel
theorem dX12_opens_9 : decode cX12_opens 9 = .ok (.aload_n 0, 1) := by decide +kernel
theorem dX12_opens_10 : decode cX12_opens 10 = .ok (.iconst 2, 1) := by decide +kernel
theorem dX12_opens_11 : decode cX12_opens 11 = .ok (.aload_n 0, 1) := by decide +kernel
theorem dX12_opens_12 : decode cX12_opens 12 = .ok (.getfield 102, 3) := by decide +kernel
theorem dX12_opens_15 : decode cX12_opens 15 = .ok (.invokevirtual 123, 3) := by decide +kernel
theorem dX12_opens_18 : decode cX12_opens 18 = .ok (.ireturn, 1) := by decide +kernel
set_option maxHeartbeats 4000000 in
set_option maxRecDepth 100000 in
theorem cz_X12_opens (l : Launch) (D : va_G) (cA : Nat → ClassId) (L : List Nat) (T : Nat → Nat) (r : Rg) (hG : GR L T r) (hL : L.Nodup) (σ : Sg) (ρ : Lg) (hW : WT L ry T σ) (sz : Nat) (h0 : Nat) (mh0 : h0 ∈ L) (th0 : T h0 = 12) (p1 : Int32) (bo : Nat) (hbo : r h0 15 = some bo) (mbo : bo ∈ L) (tbo : T bo = 67) (w0 : (σ h0 16).toInt ≤ 399) : Met l yX12_opens (.code yX12_opens cX12_opens 2 (some .boolean) :: wsA) ({ frames := 1, cells := 0, slots := 0, locals := 22 }) (PR D cA L T r σ ρ sz [.ref h0, .int p1]) (QI D cA L T r ry [(12, 9), (12, 13), (12, 16), (67, 1000)] σ sz (fun x σ1 => (0 ≤ x.toInt ∧ x.toInt ≤ 1) ∧ (x.toInt = 1 → (σ1 h0 16).toInt = (σ h0 16).toInt + 1 ∧ ∀ j : Nat, σ1 bo j = if j = (σ h0 16).toInt.toNat then p1 else σ bo j))) 0 0 (dm L sz) := by
  refine Met.ofW (cc := cX12_opens) (maxL := 2) (ret := (some .boolean)) (by decide) rfl ?_
  intro p e s m args below meth c s₁ B hml hv
  obtain ⟨rfl, hsz, hP, hK, hN⟩ := hv
  have hx := B.exec
  have hb := B.bytes
  have hr := B.returns
  have hts : ∀ w ∈ wsA, w.before _ s = true := fun w h => atoms_spec (ws := .code yX12_opens cX12_opens 2 (some .boolean) :: wsA) B.pre w (List.mem_cons_of_mem _ h)
  have hown : s.vm.findClass RX12 = some m.cls := findClass_of_methodNamed B.named
  subst hsz
  have hLA : LA (dm L s.heap.size) L := ⟨hL, fun a h => Or.inl h⟩
  have hA : ∀ q : Nat, s.heap.size ≤ q → dm L s.heap.size q := fun q h => Or.inr h
  have hS : va_S (dm L s.heap.size) s.heap s.heap [] := va_S.rf
  have hB : TS D cA L T r ry [(12, 9), (12, 13), (12, 16), (67, 1000)] σ σ ρ s.heap := ⟨hP, hW, FR.rf⟩
  have hl := lv_entry ([.ref h0, .int p1]) (n := 2) (Nat.le_of_ble_eq_true rfl)
  rw [lg_entry_eq]
  generalize (lg_sl ([.ref h0, .int p1]) ++ List.replicate (2 - (lg_sl ([.ref h0, .int p1])).length) Slot.unset).toArray = ls at hl ⊢
  have hl : lv_has ls 2 [(0, .ref h0), (1, .int p1)] := hl
  have w_1 : 0 ≤ (σ h0 16).toInt ∧ (σ h0 16).toInt ≤ 400 := by have z := hB.2.1 h0 mh0 16; rw [th0] at z; exact z
  have w_2 : 0 ≤ (σ h0 8).toInt ∧ (σ h0 8).toInt ≤ 400 := by have z := hB.2.1 h0 mh0 8; rw [th0] at z; exact z
  refine lv_aload_n hx hb dX12_opens_0 rfl (lv_at hl 0 rfl) ?_
  refine t_gi hx hb hts hown hK hB mh0 th0 fi_12_13 rfl mw_5_229 dX12_opens_1 (fun x_3 ex_3 lx_3 ux_3 => ?_)
  have cx_3 := congrArg Int32.toInt ex_3
  refine lv_bipush (v := 10) hx hb dX12_opens_4 (by decide) ?_
  refine lv_icmp_ne (tgt := 19) hx hb dX12_opens_6 (by decide) (fun c_4 => ?_) (fun c_4 => ?_)
  · skip
    have uc_4 := i_ne (n := 10) (by decide) c_4
    refine lv_aload_n hx hb dX12_opens_19 rfl (lv_at hl 0 rfl) ?_
    refine lv_dup hx hb dX12_opens_20 rfl ?_
    refine t_gv hx hb hts hown hK hB mh0 th0 fi_12_13 ex_3.symm mw_5_229 dX12_opens_21 ?_
    refine lv_iconst (v := 1) hx hb dX12_opens_24 (by decide) ?_
    refine lv_iadd hx hb dX12_opens_25 ?_
    refine lv_topi (fun x_5 ex_5 => ?_)
    try have vx_5 := b_add (rfl : x_3.toInt = _) (by decide : (1 : Int32).toInt = 1) ex_5 (by omega) (by omega)
    refine t_pi hx hb hts hown hK hLA hB hS mh0 th0 fi_12_13 rfl rfl rfl (i_lo _) (i_hi _) (Or.inl (by decide)) mw_5_229 dX12_opens_26 (fun H locs σ_6 eσ_6 hB hS => ?_)
    have k_7 : σ_6 h0 13 = x_5 := by rw [eσ_6]; exact up2_same _ _ _ _
    refine lv_aload_n hx hb dX12_opens_29 rfl (lv_at hl 0 rfl) ?_
    refine t_gk hx hb hts hown hK hB mh0 th0 fq_12_15 hbo mw_5_231 dX12_opens_30 ?_
    refine lv_aload_n hx hb dX12_opens_33 rfl (lv_at hl 0 rfl) ?_
    have k_8 : σ_6 h0 16 = (σ h0 16) := by rw [eσ_6, up2_nej _ _ (by decide)]
    refine t_gv hx hb hts hown hK hB mh0 th0 fi_12_16 k_8 mw_5_232 dX12_opens_34 ?_
    refine lv_iload_n hx hb dX12_opens_37 rfl (lv_at hl 1 rfl) ?_
    refine t_si hx hb hK hLA hB hS mbo tbo ai_67 (i_in (by omega) (by omega)) (i_lo _) (i_hi _) (Or.inr (by decide)) dX12_opens_38 (fun H locs σ_9 eσ_9 hB hS => ?_)
    have k_10 : σ_9 bo (σ h0 16).toNatClampNeg = p1 := by rw [eσ_9]; exact up2_same _ _ _ _
    refine lv_aload_n hx hb dX12_opens_39 rfl (lv_at hl 0 rfl) ?_
    refine lv_dup hx hb dX12_opens_40 rfl ?_
    have k_11 : σ_9 h0 16 = (σ h0 16) := by rw [eσ_9, up2_nea _ _ (tg_ne th0 tbo (by decide))]; exact k_8
    refine t_gv hx hb hts hown hK hB mh0 th0 fi_12_16 k_11 mw_5_232 dX12_opens_41 ?_
    refine lv_iconst (v := 1) hx hb dX12_opens_44 (by decide) ?_
    refine lv_iadd hx hb dX12_opens_45 ?_
    refine lv_topi (fun x_12 ex_12 => ?_)
    have vx_12 := b_add (rfl : (σ h0 16).toInt = _) (by decide : (1 : Int32).toInt = 1) ex_12 (by omega) (by omega)
    refine t_pi hx hb hts hown hK hLA hB hS mh0 th0 fi_12_16 rfl rfl rfl (by first | omega | (subst_vars; omega)) (by first | omega | (subst_vars; omega)) (Or.inl (by decide)) mw_5_232 dX12_opens_46 (fun H locs σ_13 eσ_13 hB hS => ?_)
    have k_14 : σ_13 h0 16 = x_12 := by rw [eσ_13]; exact up2_same _ _ _ _
    refine lv_iconst (v := 1) hx hb dX12_opens_49 (by decide) ?_
    have k_15a := congrFun eσ_13 bo
    rw [up2_row _ _ (tg_ne tbo th0 (by decide))] at k_15a
    have k_16a := congrFun eσ_6 bo
    rw [up2_row _ _ (tg_ne tbo th0 (by decide))] at k_16a
    have hc0 : (σ h0 16).toNatClampNeg = (σ h0 16).toInt.toNat := rfl
    exact W.zret (v := 1) hx hb hr rfl (fun t ht hW => ⟨⟨1, (σ_13, ρ), rfl, ⟨hB.2.1, hB.2.2, ⟨(show 0 ≤ (1 : Int32).toInt ∧ (1 : Int32).toInt ≤ 1 from ⟨by decide, by decide⟩), (show (1 : Int32).toInt = 1 → (σ_13 h0 16).toInt = (σ h0 16).toInt + 1 ∧ ∀ j : Nat, σ_13 bo j = if j = (σ h0 16).toInt.toNat then p1 else σ bo j from (fun h => ⟨by rw [k_14]; omega, fun j => by rw [k_15a, eσ_9, up2_if, k_16a, hc0]⟩))⟩⟩, (show TP D cA L T r σ_13 ρ t.heap from by rw [ht]; exact hB.1)⟩, hS.F ht⟩) hS.2.2 dX12_opens_50
  · skip
    have uc_4 := i_eq (n := 10) (by decide) c_4
    refine lv_aload_n hx hb dX12_opens_9 rfl (lv_at hl 0 rfl) ?_
    refine lv_iconst (v := 2) hx hb dX12_opens_10 (by decide) ?_
    refine lv_aload_n hx hb dX12_opens_11 rfl (lv_at hl 0 rfl) ?_
    refine t_gv hx hb hts hown hK hB mh0 th0 fi_12_8 rfl mw_5_224 dX12_opens_12 ?_
    refine t_ci (va_runV (As := [.int 2, .int (σ h0 8)]) (rest := []) ⟨hx, hb, hml, hown, hts⟩ (cy_X12_fails l D cA L T r hG hLA.1 σ ρ hB.2.1 _ h0 mh0 th0 2 ((σ h0 8)) (by first | omega | decide) (by first | omega | decide) (by first | omega | decide) (by first | omega | decide)) (cV hts mv_X12_fails mw_6_157 rfl rfl ⟨Nat.le_of_ble_eq_true rfl, Nat.le_of_ble_eq_true rfl⟩) (pV hB.1 hK hN mh0 th0 (show shp cA 12 _ _ _ = .inr (12, Fs12 _ _ _) from rfl) rfl) rfl rfl hl.1 rfl (lv_room (Nat.le_of_ble_eq_true rfl)) dX12_opens_15 ⟨Nat.le_of_ble_eq_true rfl, Nat.le_of_ble_eq_true rfl⟩) hLA hA hB hS (by decide) (fun x_19 σ_17 ρ_18 H locs hB fσ_17 pσ_17 hS => ?_)
    subst pσ_17
    have k_20 : σ_17 h0 8 = (σ h0 8) := (FR.at fσ_17 th0 (by decide)).trans rfl
    have cq_21 : (σ_17 h0 8).toInt = (σ h0 8).toInt := congrArg Int32.toInt k_20
    have k_22 : σ_17 h0 16 = (σ h0 16) := (FR.at fσ_17 th0 (by decide)).trans rfl
    have cq_23 : (σ_17 h0 16).toInt = (σ h0 16).toInt := congrArg Int32.toInt k_22
    exact W.zret (v := 0) hx hb hr rfl (fun t ht hW => ⟨⟨0, (σ_17, ρ_18), rfl, ⟨hB.2.1, hB.2.2, ⟨(show 0 ≤ (0 : Int32).toInt ∧ (0 : Int32).toInt ≤ 1 from ⟨by decide, by decide⟩), (show (0 : Int32).toInt = 1 → (σ_17 h0 16).toInt = (σ h0 16).toInt + 1 ∧ ∀ j : Nat, σ_17 bo j = if j = (σ h0 16).toInt.toNat then p1 else σ bo j from (fun h => absurd h (by decide)))⟩⟩, (show TP D cA L T r σ_17 ρ_18 t.heap from by rw [ht]; exact hB.1)⟩, hS.F ht⟩) hS.2.2 dX12_opens_18
set_option maxHeartbeats 4000000 in
set_option maxRecDepth 100000 in
theorem cz_X12_strength (l : Launch) (D : va_G) (cA : Nat → ClassId) (L : List Nat) (T : Nat → Nat) (r : Rg) (hG : GR L T r) (hL : L.Nodup) (σ : Sg) (ρ : Lg) (hW : WT L ry T σ) (sz : Nat) (p1 : Int32) : Met l yX12_strength (.code yX12_strength cX12_strength 1 (some .int) :: wsA) ({ frames := 0, cells := 0, slots := 0, locals := 0 }) (PR D cA L T r σ ρ sz [.int p1]) (QI D cA L T r ry ([] : List (Nat × Nat)) σ sz (fun x σ1 => (0 ≤ x.toInt ∧ x.toInt ≤ 3 ∧ (p1.toInt = 13 → x.toInt = 1) ∧ (p1.toInt = 12 → x.toInt = 2) ∧ (p1.toInt = 11 → x.toInt = 3) ∧ (¬ p1.toInt = 13 ∧ ¬ p1.toInt = 12 ∧ ¬ p1.toInt = 11 → x.toInt = 0)))) 0 0 (dm L sz) := by
  refine Met.ofW (cc := cX12_strength) (maxL := 1) (ret := (some .int)) (by decide) rfl ?_
  intro p e s m args below meth c s₁ B hml hv
  obtain ⟨rfl, hsz, hP, hK, hN⟩ := hv
  have hx := B.exec
  have hb := B.bytes
  have hr := B.returns
  have hts : ∀ w ∈ wsA, w.before _ s = true := fun w h => atoms_spec (ws := .code yX12_strength cX12_strength 1 (some .int) :: wsA) B.pre w (List.mem_cons_of_mem _ h)
  have hown : s.vm.findClass RX12 = some m.cls := findClass_of_methodNamed B.named
  subst hsz
  have hLA : LA (dm L s.heap.size) L := ⟨hL, fun a h => Or.inl h⟩
  have hA : ∀ q : Nat, s.heap.size ≤ q → dm L s.heap.size q := fun q h => Or.inr h
  have hS : va_S (dm L s.heap.size) s.heap s.heap [] := va_S.rf
  have hB : TS D cA L T r ry ([] : List (Nat × Nat)) σ σ ρ s.heap := ⟨hP, hW, FR.rf⟩
  have hl := lv_entry ([.int p1]) (n := 1) (Nat.le_of_ble_eq_true rfl)
  rw [lg_entry_eq]
  generalize (lg_sl ([.int p1]) ++ List.replicate (1 - (lg_sl ([.int p1])).length) Slot.unset).toArray = ls at hl ⊢
  have hl : lv_has ls 1 [(0, .int p1)] := hl
  refine lv_iload_n hx hb dX12_strength_0 rfl (lv_at hl 0 rfl) ?_
  refine lv_bipush (v := 13) hx hb dX12_strength_1 (by decide) ?_
  refine lv_icmp_ne (tgt := 10) hx hb dX12_strength_3 (by decide) (fun c_1 => ?_) (fun c_1 => ?_)
  · skip
    have uc_1 := i_ne (n := 13) (by decide) c_1
    refine lv_iload_n hx hb dX12_strength_10 rfl (lv_at hl 0 rfl) ?_
    refine lv_bipush (v := 12) hx hb dX12_strength_11 (by decide) ?_
    refine lv_icmp_ne (tgt := 20) hx hb dX12_strength_13 (by decide) (fun c_2 => ?_) (fun c_2 => ?_)
    · skip
      have uc_2 := i_ne (n := 12) (by decide) c_2
      refine lv_iload_n hx hb dX12_strength_20 rfl (lv_at hl 0 rfl) ?_
      refine lv_bipush (v := 11) hx hb dX12_strength_21 (by decide) ?_
      refine lv_icmp_ne (tgt := 30) hx hb dX12_strength_23 (by decide) (fun c_3 => ?_) (fun c_3 => ?_)
      · skip
        have uc_3 := i_ne (n := 11) (by decide) c_3
        refine lv_iconst (v := 0) hx hb dX12_strength_30 (by decide) ?_
        exact W.iret (v := 0) hx hb hr (fun t ht hW => ⟨⟨0, (σ, ρ), rfl, ⟨hB.2.1, hB.2.2, (show 0 ≤ (0 : Int32).toInt ∧ (0 : Int32).toInt ≤ 3 ∧ (p1.toInt = 13 → (0 : Int32).toInt = 1) ∧ (p1.toInt = 12 → (0 : Int32).toInt = 2) ∧ (p1.toInt = 11 → (0 : Int32).toInt = 3) ∧ (¬ p1.toInt = 13 ∧ ¬ p1.toInt = 12 ∧ ¬ p1.toInt = 11 → (0 : Int32).toInt = 0) from (by have z : (0 : Int32).toInt = 0 := (by decide); omega))⟩, (show TP D cA L T r σ ρ t.heap from by rw [ht]; exact hB.1)⟩, hS.F ht⟩) hS.2.2 dX12_strength_31
      · skip
        have uc_3 := i_eq (n := 11) (by decide) c_3
        refine lv_iconst (v := 3) hx hb dX12_strength_26 (by decide) ?_
        refine lv_goto (tgt := 31) hx hb dX12_strength_27 (by decide) ?_
        exact W.iret (v := 3) hx hb hr (fun t ht hW => ⟨⟨3, (σ, ρ), rfl, ⟨hB.2.1, hB.2.2, (show 0 ≤ (3 : Int32).toInt ∧ (3 : Int32).toInt ≤ 3 ∧ (p1.toInt = 13 → (3 : Int32).toInt = 1) ∧ (p1.toInt = 12 → (3 : Int32).toInt = 2) ∧ (p1.toInt = 11 → (3 : Int32).toInt = 3) ∧ (¬ p1.toInt = 13 ∧ ¬ p1.toInt = 12 ∧ ¬ p1.toInt = 11 → (3 : Int32).toInt = 0) from (by have z : (3 : Int32).toInt = 3 := (by decide); omega))⟩, (show TP D cA L T r σ ρ t.heap from by rw [ht]; exact hB.1)⟩, hS.F ht⟩) hS.2.2 dX12_strength_31
    · skip
      have uc_2 := i_eq (n := 12) (by decide) c_2
      refine lv_iconst (v := 2) hx hb dX12_strength_16 (by decide) ?_
      refine lv_goto (tgt := 31) hx hb dX12_strength_17 (by decide) ?_
      exact W.iret (v := 2) hx hb hr (fun t ht hW => ⟨⟨2, (σ, ρ), rfl, ⟨hB.2.1, hB.2.2, (show 0 ≤ (2 : Int32).toInt ∧ (2 : Int32).toInt ≤ 3 ∧ (p1.toInt = 13 → (2 : Int32).toInt = 1) ∧ (p1.toInt = 12 → (2 : Int32).toInt = 2) ∧ (p1.toInt = 11 → (2 : Int32).toInt = 3) ∧ (¬ p1.toInt = 13 ∧ ¬ p1.toInt = 12 ∧ ¬ p1.toInt = 11 → (2 : Int32).toInt = 0) from (by have z : (2 : Int32).toInt = 2 := (by decide); omega))⟩, (show TP D cA L T r σ ρ t.heap from by rw [ht]; exact hB.1)⟩, hS.F ht⟩) hS.2.2 dX12_strength_31
  · skip
    have uc_1 := i_eq (n := 13) (by decide) c_1
    refine lv_iconst (v := 1) hx hb dX12_strength_6 (by decide) ?_
    refine lv_goto (tgt := 31) hx hb dX12_strength_7 (by decide) ?_
    exact W.iret (v := 1) hx hb hr (fun t ht hW => ⟨⟨1, (σ, ρ), rfl, ⟨hB.2.1, hB.2.2, (show 0 ≤ (1 : Int32).toInt ∧ (1 : Int32).toInt ≤ 3 ∧ (p1.toInt = 13 → (1 : Int32).toInt = 1) ∧ (p1.toInt = 12 → (1 : Int32).toInt = 2) ∧ (p1.toInt = 11 → (1 : Int32).toInt = 3) ∧ (¬ p1.toInt = 13 ∧ ¬ p1.toInt = 12 ∧ ¬ p1.toInt = 11 → (1 : Int32).toInt = 0) from (by have z : (1 : Int32).toInt = 1 := (by decide); omega))⟩, (show TP D cA L T r σ ρ t.heap from by rw [ht]; exact hB.1)⟩, hS.F ht⟩) hS.2.2 dX12_strength_31
set_option maxHeartbeats 4000000 in
set_option maxRecDepth 100000 in
theorem cz_X12_isInside (l : Launch) (D : va_G) (cA : Nat → ClassId) (L : List Nat) (T : Nat → Nat) (r : Rg) (hG : GR L T r) (hL : L.Nodup) (σ : Sg) (ρ : Lg) (hW : WT L ry T σ) (sz : Nat) (h0 : Nat) (mh0 : h0 ∈ L) (th0 : T h0 = 12) (bo : Nat) (hbo : r h0 15 = some bo) (mbo : bo ∈ L) (tbo : T bo = 67) : Met l yX12_isInside (.code yX12_isInside cX12_isInside 2 (some .boolean) :: wsA) ({ frames := 0, cells := 0, slots := 0, locals := 0 }) (PR D cA L T r σ ρ sz [.ref h0]) (QI D cA L T r ry ([] : List (Nat × Nat)) σ sz (fun x σ1 => (0 ≤ x.toInt ∧ x.toInt ≤ 1) ∧ ((x.toInt = 1 → ¬ ∀ j : Nat, j < (σ1 h0 16).toInt.toNat → (σ1 bo j).toInt ≠ 91) ∧ (x.toInt = 0 → ∀ j : Nat, j < (σ1 h0 16).toInt.toNat → (σ1 bo j).toInt ≠ 91)))) 0 0 (dm L sz) := by
  refine Met.ofW (cc := cX12_isInside) (maxL := 2) (ret := (some .boolean)) (by decide) rfl ?_
  intro p e s m args below meth c s₁ B hml hv
  obtain ⟨rfl, hsz, hP, hK, hN⟩ := hv
  have hx := B.exec
  have hb := B.bytes
  have hr := B.returns
  have hts : ∀ w ∈ wsA, w.before _ s = true := fun w h => atoms_spec (ws := .code yX12_isInside cX12_isInside 2 (some .boolean) :: wsA) B.pre w (List.mem_cons_of_mem _ h)
  have hown : s.vm.findClass RX12 = some m.cls := findClass_of_methodNamed B.named
  subst hsz
  have hLA : LA (dm L s.heap.size) L := ⟨hL, fun a h => Or.inl h⟩
  have hA : ∀ q : Nat, s.heap.size ≤ q → dm L s.heap.size q := fun q h => Or.inr h
  have hS : va_S (dm L s.heap.size) s.heap s.heap [] := va_S.rf
  have hB : TS D cA L T r ry ([] : List (Nat × Nat)) σ σ ρ s.heap := ⟨hP, hW, FR.rf⟩
  have hl := lv_entry ([.ref h0]) (n := 2) (Nat.le_of_ble_eq_true rfl)
  rw [lg_entry_eq]
  generalize (lg_sl ([.ref h0]) ++ List.replicate (2 - (lg_sl ([.ref h0])).length) Slot.unset).toArray = ls at hl ⊢
  have hl : lv_has ls 2 [(0, .ref h0)] := hl
  have w_1 : 0 ≤ (σ h0 16).toInt ∧ (σ h0 16).toInt ≤ 400 := by have z := hB.2.1 h0 mh0 16; rw [th0] at z; exact z
  refine lv_iconst (v := 0) hx hb dX12_isInside_0 (by decide) ?_
  refine lv_istore_n (lv' := [(1, .int 0), (0, .ref h0)]) hx hb dX12_isInside_1 rfl hl (by decide) rfl (fun ls hl => ?_)
  refine w_loop (α := Int32 × Sg × Lg) (fun (i_2, σ_3, ρ_4) H locs ls => 0 ≤ i_2.toInt ∧ i_2.toInt ≤ 400 ∧ σ_3 h0 16 = (σ h0 16) ∧ (∀ j : Nat, j < i_2.toInt.toNat → (σ_3 bo j).toInt ≠ 91) ∧ TS D cA L T r ry ([] : List (Nat × Nat)) σ σ_3 ρ_4 H ∧ va_S (dm L s.heap.size) s.heap H locs ∧ lv_has ls 2 [(1, .int i_2), (0, .ref h0)]) (fun (i_2, σ_3, ρ_4) => (400 - i_2.toInt).toNat) ?_ ⟨0, σ, ρ⟩ ⟨(by decide), (by decide), rfl, (fun j hj => absurd hj (by show ¬ j < (0 : Int32).toInt.toNat; rw [show (0 : Int32).toInt.toNat = 0 from rfl]; omega)), hB, hS, lv_sub hl [0, 1] rfl⟩
  rintro ⟨i_2, σ_3, ρ_4⟩ H locs ls ⟨li_2, ui_2, k_6, g_7, hB, hS, hl⟩ ih_5
  have cq_8 := congrArg Int32.toInt k_6
  refine lv_iload_n hx hb dX12_isInside_2 rfl (lv_at hl 0 rfl) ?_
  refine lv_aload_n hx hb dX12_isInside_3 rfl (lv_at hl 1 rfl) ?_
  refine t_gv hx hb hts hown hK hB mh0 th0 fi_12_16 k_6 mw_5_232 dX12_isInside_4 ?_
  refine lv_icmp_ge (tgt := 29) hx hb dX12_isInside_7 (by decide) (fun c_9 => ?_) (fun c_9 => ?_)
  · skip
    have uc_9 := j_le c_9
    refine lv_iconst (v := 0) hx hb dX12_isInside_29 (by decide) ?_
    exact W.zret (v := 0) hx hb hr rfl (fun t ht hW => ⟨⟨0, (σ_3, ρ_4), rfl, ⟨hB.2.1, hB.2.2, ⟨(show 0 ≤ (0 : Int32).toInt ∧ (0 : Int32).toInt ≤ 1 from ⟨by decide, by decide⟩), (show ((0 : Int32).toInt = 1 → ¬ ∀ j : Nat, j < (σ_3 h0 16).toInt.toNat → (σ_3 bo j).toInt ≠ 91) ∧ ((0 : Int32).toInt = 0 → ∀ j : Nat, j < (σ_3 h0 16).toInt.toNat → (σ_3 bo j).toInt ≠ 91) from ⟨fun h => absurd h (by decide), fun _ j hj => g_7 j (by omega)⟩)⟩⟩, (show TP D cA L T r σ_3 ρ_4 t.heap from by rw [ht]; exact hB.1)⟩, hS.F ht⟩) hS.2.2 dX12_isInside_30
  · skip
    have uc_9 := j_nle c_9
    refine lv_aload_n hx hb dX12_isInside_10 rfl (lv_at hl 1 rfl) ?_
    refine t_gk hx hb hts hown hK hB mh0 th0 fq_12_15 hbo mw_5_231 dX12_isInside_11 ?_
    refine lv_iload_n hx hb dX12_isInside_14 rfl (lv_at hl 0 rfl) ?_
    refine t_ai hx hb hK hB mbo tbo ai_67 (fun _ => rfl) (i_in (by omega) (by omega)) dX12_isInside_15 (fun x_10 ex_10 lx_10 ux_10 => ?_)
    have cx_10 := congrArg Int32.toInt ex_10
    refine lv_bipush (v := 91) hx hb dX12_isInside_16 (by decide) ?_
    refine lv_icmp_ne (tgt := 23) hx hb dX12_isInside_18 (by decide) (fun c_11 => ?_) (fun c_11 => ?_)
    · skip
      have uc_11 := i_ne (n := 91) (by decide) c_11
      obtain ⟨x_12, ex_12⟩ : ∃ y : Int32, y = i_2 + 1 := ⟨_, rfl⟩
      have vx_12 := b_add (rfl : i_2.toInt = _) (by decide : (1 : Int32).toInt = 1) ex_12 (by omega) (by omega)
      refine lv_iinc (v := x_12) (lv' := [(1, .int x_12), (0, .ref h0)]) hx hb dX12_isInside_23 hl (k := 0) rfl (by rw [ex_12]; rfl) (by decide) rfl (fun ls hl => ?_)
      refine lv_goto (tgt := 2) hx hb dX12_isInside_26 (by decide) ?_
      exact ih_5 ⟨x_12, σ_3, ρ_4⟩ _ _ _ ⟨(by omega), (by omega), k_6, (fun j hj => by by_cases e : j < i_2.toInt.toNat; (exact g_7 j e); (have e2 : j = i_2.toNatClampNeg := (by have hn : i_2.toNatClampNeg = i_2.toInt.toNat := rfl; omega); rw [e2]; omega)), hB, hS, lv_sub hl [0, 1] rfl⟩ (by show (400 - x_12.toInt).toNat < (400 - i_2.toInt).toNat; omega)
    · skip
      have uc_11 := i_eq (n := 91) (by decide) c_11
      refine lv_iconst (v := 1) hx hb dX12_isInside_21 (by decide) ?_
      exact W.zret (v := 1) hx hb hr rfl (fun t ht hW => ⟨⟨1, (σ_3, ρ_4), rfl, ⟨hB.2.1, hB.2.2, ⟨(show 0 ≤ (1 : Int32).toInt ∧ (1 : Int32).toInt ≤ 1 from ⟨by decide, by decide⟩), (show ((1 : Int32).toInt = 1 → ¬ ∀ j : Nat, j < (σ_3 h0 16).toInt.toNat → (σ_3 bo j).toInt ≠ 91) ∧ ((1 : Int32).toInt = 0 → ∀ j : Nat, j < (σ_3 h0 16).toInt.toNat → (σ_3 bo j).toInt ≠ 91) from ⟨fun _ hh => hh i_2.toNatClampNeg (by have hn : i_2.toNatClampNeg = i_2.toInt.toNat := rfl; omega) (by omega), fun h => absurd h (by decide)⟩)⟩⟩, (show TP D cA L T r σ_3 ρ_4 t.heap from by rw [ht]; exact hB.1)⟩, hS.F ht⟩) hS.2.2 dX12_isInside_22
theorem mw_7_40 : (.static yX12_strength : Cond) ∈ wsA := wsA_t (List.mem_append_right _ (List.mem_append_right _ (List.mem_append_right _ (List.mem_append_right _ (List.mem_append_right _ (List.mem_append_right _ (List.mem_append_left _ (List.mem_of_getElem? (l := tables_1_7) (i := 40) rfl)))))))) rfl
theorem mw_7_41 : (.code yX12_strength cX12_strength 1 (some .int) : Cond) ∈ wsA := wsA_t (List.mem_append_right _ (List.mem_append_right _ (List.mem_append_right _ (List.mem_append_right _ (List.mem_append_right _ (List.mem_append_right _ (List.mem_append_left _ (List.mem_of_getElem? (l := tables_1_7) (i := 41) rfl)))))))) rfl
theorem mw_7_39 : (.methodLink RX12 166 yX12_strength : Cond) ∈ wsA := wsA_t (List.mem_append_right _ (List.mem_append_right _ (List.mem_append_right _ (List.mem_append_right _ (List.mem_append_right _ (List.mem_append_right _ (List.mem_append_left _ (List.mem_of_getElem? (l := tables_1_7) (i := 39) rfl)))))))) rfl
theorem dX12_settles_0 : decode cX12_settles 0 = .ok (.aload_n 0, 1) := by decide +kernel
theorem dX12_settles_1 : decode cX12_settles 1 = .ok (.getfield 163, 3) := by decide +kernel
theorem dX12_settles_4 : decode cX12_settles 4 = .ok (.ifCond .le 72, 3) := by decide +kernel
theorem dX12_settles_7 : decode cX12_settles 7 = .ok (.aload_n 0, 1) := by decide +kernel
theorem dX12_settles_8 : decode cX12_settles 8 = .ok (.getfield 29, 3) := by decide +kernel
theorem dX12_settles_11 : decode cX12_settles 11 = .ok (.aload_n 0, 1) := by decide +kernel
theorem dX12_settles_12 : decode cX12_settles 12 = .ok (.getfield 163, 3) := by decide +kernel
theorem dX12_settles_15 : decode cX12_settles 15 = .ok (.iconst 1, 1) := by decide +kernel
theorem dX12_settles_16 : decode cX12_settles 16 = .ok (.isub, 1) := by decide +kernel
theorem dX12_settles_17 : decode cX12_settles 17 = .ok (.iaload, 1) := by decide +kernel
theorem dX12_settles_18 : decode cX12_settles 18 = .ok (.invokestatic 166, 3) := by decide +kernel
theorem dX12_settles_21 : decode cX12_settles 21 = .ok (.iload_n 1, 1) := by decide +kernel
theorem dX12_settles_22 : decode cX12_settles 22 = .ok (.if_icmp .lt 54, 3) := by decide +kernel
theorem dX12_settles_25 : decode cX12_settles 25 = .ok (.aload_n 0, 1) := by decide +kernel
theorem dX12_settles_26 : decode cX12_settles 26 = .ok (.dup, 1) := by decide +kernel
theorem dX12_settles_27 : decode cX12_settles 27 = .ok (.getfield 163, 3) := by decide +kernel
theorem dX12_settles_30 : decode cX12_settles 30 = .ok (.iconst 1, 1) := by decide +kernel
theorem dX12_settles_31 : decode cX12_settles 31 = .ok (.isub, 1) := by decide +kernel
theorem dX12_settles_32 : decode cX12_settles 32 = .ok (.putfield 163, 3) := by decide +kernel
theorem dX12_settles_35 : decode cX12_settles 35 = .ok (.aload_n 0, 1) := by decide +kernel
theorem dX12_settles_36 : decode cX12_settles 36 = .ok (.aload_n 0, 1) := by decide +kernel
theorem dX12_settles_37 : decode cX12_settles 37 = .ok (.getfield 29, 3) := by decide +kernel
theorem dX12_settles_40 : decode cX12_settles 40 = .ok (.aload_n 0, 1) := by decide +kernel
theorem dX12_settles_41 : decode cX12_settles 41 = .ok (.getfield 163, 3) := by decide +kernel
theorem dX12_settles_44 : decode cX12_settles 44 = .ok (.iaload, 1) := by decide +kernel
theorem dX12_settles_45 : decode cX12_settles 45 = .ok (.iconst 0, 1) := by decide +kernel
theorem dX12_settles_46 : decode cX12_settles 46 = .ok (.invokevirtual 170, 3) := by decide +kernel
theorem dX12_settles_49 : decode cX12_settles 49 = .ok (.aload_n 0, 1) := by decide +kernel
theorem dX12_settles_50 : decode cX12_settles 50 = .ok (.getfield 29, 3) := by decide +kernel
theorem dX12_settles_53 : decode cX12_settles 53 = .ok (.aload_n 0, 1) := by decide +kernel
theorem dX12_settles_54 : decode cX12_settles 54 = .ok (.getfield 163, 3) := by decide +kernel
theorem dX12_settles_57 : decode cX12_settles 57 = .ok (.iaload, 1) := by decide +kernel
theorem dX12_settles_58 : decode cX12_settles 58 = .ok (.bipush 11, 2) := by decide +kernel
theorem dX12_settles_60 : decode cX12_settles 60 = .ok (.if_icmp .ne (-60), 3) := by decide +kernel
theorem dX12_settles_63 : decode cX12_settles 63 = .ok (.aload_n 0, 1) := by decide +kernel
theorem dX12_settles_64 : decode cX12_settles 64 = .ok (.dup, 1) := by decide +kernel
theorem dX12_settles_65 : decode cX12_settles 65 = .ok (.getfield 160, 3) := by decide +kernel
theorem dX12_settles_68 : decode cX12_settles 68 = .ok (.iconst 1, 1) := by decide +kernel
theorem dX12_settles_69 : decode cX12_settles 69 = .ok (.isub, 1) := by decide +kernel
theorem dX12_settles_70 : decode cX12_settles 70 = .ok (.putfield 160, 3) := by decide +kernel
theorem dX12_settles_73 : decode cX12_settles 73 = .ok (.goto (-73), 3) := by decide +kernel
theorem dX12_settles_76 : decode cX12_settles 76 = .ok (.return_, 1) := by decide +kernel
theorem ms_X12_strength : MS RX12 yX12_strength cX12_strength 1 (some .int) 1 := ⟨mw_7_40, mw_1_13, mw_7_41, ⟨rfl, by decide, by decide, by decide +kernel⟩⟩
set_option maxHeartbeats 4000000 in
set_option maxRecDepth 100000 in
theorem cz_X12_settles (l : Launch) (D : va_G) (cA : Nat → ClassId) (L : List Nat) (T : Nat → Nat) (r : Rg) (hG : GR L T r) (hL : L.Nodup) (σ : Sg) (ρ : Lg) (hW : WT L ry T σ) (sz : Nat) (h0 : Nat) (mh0 : h0 ∈ L) (th0 : T h0 = 12) (p1 : Int32) (bg : Nat) (hbg : r h0 3 = some bg) (mbg : bg ∈ L) (tbg : T bg = 62) (bl : Nat) (hbl : r h0 4 = some bl) (mbl : bl ∈ L) (tbl : T bl = 63) (bo : Nat) (hbo : r h0 15 = some bo) (mbo : bo ∈ L) (tbo : T bo = 67) (tx : Int32) (k0 : σ h0 11 = tx) (w0 : 0 ≤ tx.toInt) (w1 : tx.toInt ≤ 5) (w2 : Nat) (w3 : TV σ h0 bg bl bo tx w2 1) (w4 : 1 ≤ p1.toInt) : Met l yX12_settles (.code yX12_settles cX12_settles 2 none :: wsA) ({ frames := 1, cells := 0, slots := 0, locals := 22 }) (PR D cA L T r σ ρ sz [.ref h0, .int p1]) (QV D cA L T r ry [(12, 13), (12, 16), (62, 1000), (63, 1000)] σ sz (fun σ1 => (EX (σ bg) (σ bl) (σ1 bg) (σ1 bl) tx) ∧ (TV σ1 h0 bg bl bo tx w2 1) ∧ ((σ1 h0 16).toInt ≤ (σ h0 16).toInt) ∧ (∀ j : Nat, j < (σ h0 16).toInt.toNat → (σ bo j).toInt = 91 → j < (σ1 h0 16).toInt.toNat) ∧ ((σ1 bl tx.toNatClampNeg).toInt + (σ1 h0 16).toInt ≤ (σ bl tx.toNatClampNeg).toInt + (σ h0 16).toInt) ∧ (p1.toInt = 1 → (σ1 h0 16).toInt = 0 ∨ ((σ1 bo ((σ1 h0 16).toInt.toNat - 1)).toInt ≠ 11 ∧ (σ1 bo ((σ1 h0 16).toInt.toNat - 1)).toInt ≠ 12 ∧ (σ1 bo ((σ1 h0 16).toInt.toNat - 1)).toInt ≠ 13)))) 0 0 (dm L sz) := by
  refine Met.ofW (cc := cX12_settles) (maxL := 2) (ret := none) (by decide) rfl ?_
  intro p e s m args below meth c s₁ B hml hv
  obtain ⟨rfl, hsz, hP, hK, hN⟩ := hv
  have hx := B.exec
  have hb := B.bytes
  have hr := B.returns
  have hts : ∀ w ∈ wsA, w.before _ s = true := fun w h => atoms_spec (ws := .code yX12_settles cX12_settles 2 none :: wsA) B.pre w (List.mem_cons_of_mem _ h)
  have hown : s.vm.findClass RX12 = some m.cls := findClass_of_methodNamed B.named
  subst hsz
  have hLA : LA (dm L s.heap.size) L := ⟨hL, fun a h => Or.inl h⟩
  have hA : ∀ q : Nat, s.heap.size ≤ q → dm L s.heap.size q := fun q h => Or.inr h
  have hS : va_S (dm L s.heap.size) s.heap s.heap [] := va_S.rf
  have hB : TS D cA L T r ry [(12, 13), (12, 16), (62, 1000), (63, 1000)] σ σ ρ s.heap := ⟨hP, hW, FR.rf⟩
  have hl := lv_entry ([.ref h0, .int p1]) (n := 2) (Nat.le_of_ble_eq_true rfl)
  rw [lg_entry_eq]
  generalize (lg_sl ([.ref h0, .int p1]) ++ List.replicate (2 - (lg_sl ([.ref h0, .int p1])).length) Slot.unset).toArray = ls at hl ⊢
  have hl : lv_has ls 2 [(0, .ref h0), (1, .int p1)] := hl
  have w_1 : 0 ≤ (σ h0 8).toInt ∧ (σ h0 8).toInt ≤ 400 := by have z := hB.2.1 h0 mh0 8; rw [th0] at z; exact z
  have w_2 : 0 ≤ (σ h0 1).toInt ∧ (σ h0 1).toInt ≤ 400 := by have z := hB.2.1 h0 mh0 1; rw [th0] at z; exact z
  have w_3 : 0 ≤ (σ h0 12).toInt ∧ (σ h0 12).toInt ≤ 60 := by have z := hB.2.1 h0 mh0 12; rw [th0] at z; exact z
  have w_4 : 0 ≤ (σ h0 16).toInt ∧ (σ h0 16).toInt ≤ 400 := by have z := hB.2.1 h0 mh0 16; rw [th0] at z; exact z
  have w_5 : 0 ≤ (σ bl tx.toNatClampNeg).toInt ∧ (σ bl tx.toNatClampNeg).toInt ≤ 400 := by have z := hB.2.1 bl mbl tx.toNatClampNeg; rw [tbl] at z; exact z
  have tn0 := w3.2.2.2
  refine w_loop (α := Sg × Lg) (fun (σ_6, ρ_7) H locs ls => σ_6 h0 11 = tx ∧ σ_6 h0 8 = (σ h0 8) ∧ σ_6 h0 1 = (σ h0 1) ∧ σ_6 h0 12 = (σ h0 12) ∧ (EX (σ bg) (σ bl) (σ_6 bg) (σ_6 bl) tx) ∧ (TV σ_6 h0 bg bl bo tx w2 1) ∧ ((σ_6 h0 16).toInt ≤ (σ h0 16).toInt) ∧ (∀ j : Nat, j < (σ h0 16).toInt.toNat → (σ bo j).toInt = 91 → j < (σ_6 h0 16).toInt.toNat) ∧ ((σ_6 bl tx.toNatClampNeg).toInt + (σ_6 h0 16).toInt ≤ (σ bl tx.toNatClampNeg).toInt + (σ h0 16).toInt) ∧ TS D cA L T r ry [(12, 13), (12, 16), (62, 1000), (63, 1000)] σ σ_6 ρ_7 H ∧ va_S (dm L s.heap.size) s.heap H locs ∧ lv_has ls 2 [(0, .ref h0), (1, .int p1)]) (fun (σ_6, ρ_7) => (σ_6 h0 16).toInt.toNat) ?_ ⟨σ, ρ⟩ ⟨k0, rfl, rfl, rfl, EX.rf, w3, (by omega), (fun j hj _ => hj), (by omega), hB, hS, lv_sub hl [0, 1] rfl⟩
  rintro ⟨σ_6, ρ_7⟩ H locs ls ⟨k_9, k_10, k_11, k_12, g_13, g_14, g_15, g_16, g_17, hB, hS, hl⟩ ih_8
  have w_18 : 0 ≤ (σ_6 h0 16).toInt ∧ (σ_6 h0 16).toInt ≤ 400 := by have z := hB.2.1 h0 mh0 16; rw [th0] at z; exact z
  have w_19 : 0 ≤ (σ_6 bl tx.toNatClampNeg).toInt ∧ (σ_6 bl tx.toNatClampNeg).toInt ≤ 400 := by have z := hB.2.1 bl mbl tx.toNatClampNeg; rw [tbl] at z; exact z
  have rbo := FR.row hB.2.2 tbo (fun j => by simp)
  have tn1 := g_14.2.2.2
  refine lv_aload_n hx hb dX12_settles_0 rfl (lv_at hl 0 rfl) ?_
  refine t_gv hx hb hts hown hK hB mh0 th0 fi_12_16 rfl mw_5_232 dX12_settles_1 ?_
  refine lv_if_le (tgt := 76) hx hb dX12_settles_4 (by decide) (fun c_20 => ?_) (fun c_20 => ?_)
  · skip
    have uc_20 := i_le (n := 0) (by decide) c_20
    exact W.vret hx hb hr (fun t ht hW => ⟨⟨(σ_6, ρ_7), rfl, ⟨hB.2.1, hB.2.2, ⟨(show EX (σ bg) (σ bl) (σ_6 bg) (σ_6 bl) tx from g_13), (show TV σ_6 h0 bg bl bo tx w2 1 from g_14), (show (σ_6 h0 16).toInt ≤ (σ h0 16).toInt from (by omega)), (show ∀ j : Nat, j < (σ h0 16).toInt.toNat → (σ bo j).toInt = 91 → j < (σ_6 h0 16).toInt.toNat from g_16), (show (σ_6 bl tx.toNatClampNeg).toInt + (σ_6 h0 16).toInt ≤ (σ bl tx.toNatClampNeg).toInt + (σ h0 16).toInt from (by omega)), (show p1.toInt = 1 → (σ_6 h0 16).toInt = 0 ∨ ((σ_6 bo ((σ_6 h0 16).toInt.toNat - 1)).toInt ≠ 11 ∧ (σ_6 bo ((σ_6 h0 16).toInt.toNat - 1)).toInt ≠ 12 ∧ (σ_6 bo ((σ_6 h0 16).toInt.toNat - 1)).toInt ≠ 13) from (fun h => by first | (exact Or.inl (by omega)) | (refine Or.inr ?_; have q : (σ_6 bo ((σ_6 h0 16).toInt.toNat - 1)).toInt = (σ_6 bo zz.toNatClampNeg).toInt := (by rw [show (σ_6 h0 16).toInt.toNat - 1 = zz.toNatClampNeg from (by have hn : zz.toNatClampNeg = zz.toInt.toNat := rfl; omega)]); omega)))⟩⟩, (show TP D cA L T r σ_6 ρ_7 t.heap from by rw [ht]; exact hB.1)⟩, hS.F ht⟩) hS.2.2 dX12_settles_76
  · skip
    have uc_20 := i_nle (n := 0) (by decide) c_20
    refine lv_aload_n hx hb dX12_settles_7 rfl (lv_at hl 0 rfl) ?_
    refine t_gk hx hb hts hown hK hB mh0 th0 fq_12_15 hbo mw_5_231 dX12_settles_8 ?_
    refine lv_aload_n hx hb dX12_settles_11 rfl (lv_at hl 0 rfl) ?_
    refine t_gv hx hb hts hown hK hB mh0 th0 fi_12_16 rfl mw_5_232 dX12_settles_12 ?_
    refine lv_iconst (v := 1) hx hb dX12_settles_15 (by decide) ?_
    refine lv_isub hx hb dX12_settles_16 ?_
    refine lv_topi (fun x_21 ex_21 => ?_)
    have vx_21 := b_sub (rfl : (σ_6 h0 16).toInt = _) (by decide : (1 : Int32).toInt = 1) ex_21 (by omega) (by omega)
    refine t_ai hx hb hK hB mbo tbo ai_67 (fun _ => rfl) (i_in (by omega) (by omega)) dX12_settles_17 (fun x_22 ex_22 lx_22 ux_22 => ?_)
    have cx_22 := congrArg Int32.toInt ex_22
    have cq_23 : (σ_6 h0 8).toInt = (σ h0 8).toInt := congrArg Int32.toInt k_10
    have cq_24 : (σ_6 h0 1).toInt = (σ h0 1).toInt := congrArg Int32.toInt k_11
    have cq_25 : (σ_6 h0 12).toInt = (σ h0 12).toInt := congrArg Int32.toInt k_12
    refine t_ci (va_runS (As := [.int x_22]) (rest := []) ⟨hx, hb, hml, hown, hts⟩ (cz_X12_strength l D cA L T r hG hLA.1 σ_6 ρ_7 hB.2.1 _ x_22) (cS hts ms_X12_strength mw_7_39 rfl rfl ⟨Nat.le_of_ble_eq_true rfl, Nat.le_of_ble_eq_true rfl⟩) (pS hB.1 hK hN) rfl rfl hl.1 rfl (lv_room (Nat.le_of_ble_eq_true rfl)) dX12_settles_18 ⟨Nat.le_of_ble_eq_true rfl, Nat.le_of_ble_eq_true rfl⟩) hLA hA hB hS (by decide) (fun x_28 σ_26 ρ_27 H locs hB fσ_26 pσ_26 hS => ?_)
    have qσ_26 := FR.nil fσ_26
    subst qσ_26
    obtain ⟨ax_28, bx_28, cx_28, dx_28, fx_28, ix_28⟩ := pσ_26
    refine lv_iload_n hx hb dX12_settles_21 rfl (lv_at hl 1 rfl) ?_
    refine lv_icmp_lt (tgt := 76) hx hb dX12_settles_22 (by decide) (fun c_29 => ?_) (fun c_29 => ?_)
    · skip
      have uc_29 := j_lt c_29
      exact W.vret hx hb hr (fun t ht hW => ⟨⟨(σ_6, ρ_27), rfl, ⟨hB.2.1, hB.2.2, ⟨(show EX (σ bg) (σ bl) (σ_6 bg) (σ_6 bl) tx from g_13), (show TV σ_6 h0 bg bl bo tx w2 1 from g_14), (show (σ_6 h0 16).toInt ≤ (σ h0 16).toInt from (by omega)), (show ∀ j : Nat, j < (σ h0 16).toInt.toNat → (σ bo j).toInt = 91 → j < (σ_6 h0 16).toInt.toNat from g_16), (show (σ_6 bl tx.toNatClampNeg).toInt + (σ_6 h0 16).toInt ≤ (σ bl tx.toNatClampNeg).toInt + (σ h0 16).toInt from (by omega)), (show p1.toInt = 1 → (σ_6 h0 16).toInt = 0 ∨ ((σ_6 bo ((σ_6 h0 16).toInt.toNat - 1)).toInt ≠ 11 ∧ (σ_6 bo ((σ_6 h0 16).toInt.toNat - 1)).toInt ≠ 12 ∧ (σ_6 bo ((σ_6 h0 16).toInt.toNat - 1)).toInt ≠ 13) from (fun h => by first | (exact Or.inl (by omega)) | (refine Or.inr ?_; have q : (σ_6 bo ((σ_6 h0 16).toInt.toNat - 1)).toInt = (σ_6 bo x_21.toNatClampNeg).toInt := (by rw [show (σ_6 h0 16).toInt.toNat - 1 = x_21.toNatClampNeg from (by have hn : x_21.toNatClampNeg = x_21.toInt.toNat := rfl; omega)]); omega)))⟩⟩, (show TP D cA L T r σ_6 ρ_27 t.heap from by rw [ht]; exact hB.1)⟩, hS.F ht⟩) hS.2.2 dX12_settles_76
    · skip
      have uc_29 := j_nlt c_29
      refine lv_aload_n hx hb dX12_settles_25 rfl (lv_at hl 0 rfl) ?_
      refine lv_dup hx hb dX12_settles_26 rfl ?_
      refine t_gv hx hb hts hown hK hB mh0 th0 fi_12_16 rfl mw_5_232 dX12_settles_27 ?_
      refine lv_iconst (v := 1) hx hb dX12_settles_30 (by decide) ?_
      refine lv_isub hx hb dX12_settles_31 ?_
      refine lv_topi (fun x_30 ex_30 => ?_)
      have vx_30 := b_sub (rfl : (σ_6 h0 16).toInt = _) (by decide : (1 : Int32).toInt = 1) ex_30 (by omega) (by omega)
      refine t_pi hx hb hts hown hK hLA hB hS mh0 th0 fi_12_16 rfl rfl rfl (by first | omega | (subst_vars; omega)) (by first | omega | (subst_vars; omega)) (Or.inl (by decide)) mw_5_232 dX12_settles_32 (fun H locs σ_31 eσ_31 hB hS => ?_)
      have k_32 : σ_31 h0 16 = x_30 := by rw [eσ_31]; exact up2_same _ _ _ _
      refine lv_aload_n hx hb dX12_settles_35 rfl (lv_at hl 0 rfl) ?_
      refine lv_aload_n hx hb dX12_settles_36 rfl (lv_at hl 0 rfl) ?_
      refine t_gk hx hb hts hown hK hB mh0 th0 fq_12_15 hbo mw_5_231 dX12_settles_37 ?_
      refine lv_aload_n hx hb dX12_settles_40 rfl (lv_at hl 0 rfl) ?_
      refine t_gv hx hb hts hown hK hB mh0 th0 fi_12_16 k_32 mw_5_232 dX12_settles_41 ?_
      refine t_ai hx hb hK hB mbo tbo ai_67 (fun _ => rfl) (i_in (by omega) (by omega)) dX12_settles_44 (fun x_33 ex_33 lx_33 ux_33 => ?_)
      have cx_33 := congrArg Int32.toInt ex_33
      refine lv_iconst (v := 0) hx hb dX12_settles_45 (by decide) ?_
      have k_34 : σ_31 bl tx.toNatClampNeg = (σ_6 bl tx.toNatClampNeg) := by rw [eσ_31, up2_nea _ _ (tg_ne tbl th0 (by decide))]
      have hPL2 : 0 ≤ (σ_31 bl tx.toNatClampNeg).toInt := (by rw [k_34]; omega)
      have k_35 : σ_31 h0 8 = (σ h0 8) := by rw [eσ_31, up2_nej _ _ (by decide)]; exact k_10
      have cq_36 : (σ_31 h0 8).toInt = (σ h0 8).toInt := congrArg Int32.toInt k_35
      have k_37 : σ_31 h0 1 = (σ h0 1) := by rw [eσ_31, up2_nej _ _ (by decide)]; exact k_11
      have cq_38 : (σ_31 h0 1).toInt = (σ h0 1).toInt := congrArg Int32.toInt k_37
      have k_39 : σ_31 h0 12 = (σ h0 12) := by rw [eσ_31, up2_nej _ _ (by decide)]; exact k_12
      have cq_40 : (σ_31 h0 12).toInt = (σ h0 12).toInt := congrArg Int32.toInt k_39
      have cq_41 : (σ_31 h0 16).toInt = x_30.toInt := congrArg Int32.toInt k_32
      have cq_42 : (σ_31 bl tx.toNatClampNeg).toInt = (σ_6 bl tx.toNatClampNeg).toInt := congrArg Int32.toInt k_34
      have k_43 : σ_31 h0 11 = tx := by rw [eσ_31, up2_nej _ _ (by decide)]; exact k_9
      refine t_cv (va_runV (As := [.int x_33, .int 0]) (rest := []) ⟨hx, hb, hml, hown, hts⟩ (cz_X12_puts l D cA L T r hG hLA.1 σ_31 ρ_27 hB.2.1 _ h0 mh0 th0 x_33 0 bg hbg mbg tbg bl hbl mbl tbl tx k_43 (by first | omega | decide) (by first | omega | decide) (by rw [k_34]; omega)) (cV hts mv_X12_puts mw_6_233 rfl rfl ⟨Nat.le_of_ble_eq_true rfl, Nat.le_of_ble_eq_true rfl⟩) (pV hB.1 hK hN mh0 th0 (show shp cA 12 _ _ _ = .inr (12, Fs12 _ _ _) from rfl) rfl) rfl rfl hl.1 rfl (lv_room (Nat.le_of_ble_eq_true rfl)) dX12_settles_46 ⟨Nat.le_of_ble_eq_true rfl, Nat.le_of_ble_eq_true rfl⟩) hLA hA hB hS (by decide) (fun σ_44 ρ_45 H locs hB fσ_44 pσ_44 hS => ?_)
      have w_47 : 0 ≤ (σ_44 bl tx.toNatClampNeg).toInt ∧ (σ_44 bl tx.toNatClampNeg).toInt ≤ 400 := by have z := hB.2.1 bl mbl tx.toNatClampNeg; rw [tbl] at z; exact z
      have k_48 : σ_44 h0 8 = (σ h0 8) := (FR.at fσ_44 th0 (by decide)).trans k_35
      have cq_49 : (σ_44 h0 8).toInt = (σ h0 8).toInt := congrArg Int32.toInt k_48
      have k_50 : σ_44 h0 1 = (σ h0 1) := (FR.at fσ_44 th0 (by decide)).trans k_37
      have cq_51 : (σ_44 h0 1).toInt = (σ h0 1).toInt := congrArg Int32.toInt k_50
      have k_52 : σ_44 h0 12 = (σ h0 12) := (FR.at fσ_44 th0 (by decide)).trans k_39
      have cq_53 : (σ_44 h0 12).toInt = (σ h0 12).toInt := congrArg Int32.toInt k_52
      have k_54 : σ_44 h0 16 = x_30 := (FR.at fσ_44 th0 (by decide)).trans k_32
      have cq_55 : (σ_44 h0 16).toInt = x_30.toInt := congrArg Int32.toInt k_54
      have k_56a := congrFun eσ_31 bo
      rw [up2_row _ _ (tg_ne tbo th0 (by decide))] at k_56a
      have pn1 := pσ_44.1
      have po1 : (σ_6 bo ((σ_6 h0 16).toInt.toNat - 1)).toInt = x_33.toInt := by rw [show (σ_6 h0 16).toInt.toNat - 1 = x_30.toNatClampNeg from (by have hn : x_30.toNatClampNeg = x_30.toInt.toNat := rfl; omega), ex_33, (k_56a)]
      have po2 := nb_c (f := σ_6 bo) (a := x_21) (b := x_30) (by omega)
      have po3 : (σ_31 bo x_30.toNatClampNeg).toInt = (σ_6 bo x_30.toNatClampNeg).toInt := by rw [(k_56a)]
      have po4 : x_33.toInt = 11 ∨ x_33.toInt = 12 ∨ x_33.toInt = 13 := by omega
      have k_57a := congrFun eσ_31 bg
      rw [up2_row _ _ (tg_ne tbg th0 (by decide))] at k_57a
      have k_58a := congrFun eσ_31 bl
      rw [up2_row _ _ (tg_ne tbl th0 (by decide))] at k_58a
      have ex_59 : EX (σ bg) (σ bl) (σ_31 bg) (σ_31 bl) tx := by rw [(k_57a), (k_58a)]; exact g_13
      have ex_60 := EX.tr ex_59 (PU.ex pσ_44 (by have z := hPL2; omega))
      have k_61a := congrFun eσ_31 bg
      rw [up2_row _ _ (tg_ne tbg th0 (by decide))] at k_61a
      have k_62a := congrFun eσ_31 bl
      rw [up2_row _ _ (tg_ne tbl th0 (by decide))] at k_62a
      have k_63a := congrFun eσ_31 bo
      rw [up2_row _ _ (tg_ne tbo th0 (by decide))] at k_63a
      have k_64 := FR.row fσ_44 tbo (fun j => by simp)
      have TP1 : TV σ_44 h0 bg bl bo tx w2 1 := TV.pop g_14 (by omega) (by omega) (by rcases po4 with q | q | q; (exact Or.inl ⟨by omega, pk_11 q⟩); (exact Or.inr (Or.inl ⟨by omega, pk_12 q⟩)); (exact Or.inr (Or.inr ⟨by omega, pk_13 q⟩))) (PU.lf (k_61a) (k_62a) pσ_44) ((k_64).trans (k_63a)) (by rw [k_54]; omega) ((k_52).trans (k_12).symm) ((k_48).trans (k_10).symm)
      refine lv_aload_n hx hb dX12_settles_49 rfl (lv_at hl 0 rfl) ?_
      refine t_gk hx hb hts hown hK hB mh0 th0 fq_12_15 hbo mw_5_231 dX12_settles_50 ?_
      refine lv_aload_n hx hb dX12_settles_53 rfl (lv_at hl 0 rfl) ?_
      refine t_gv hx hb hts hown hK hB mh0 th0 fi_12_16 k_54 mw_5_232 dX12_settles_54 ?_
      have k_65 : σ_44 bo x_30.toNatClampNeg = x_33 := (FR.at fσ_44 tbo (by simp)).trans ex_33.symm
      refine t_ai hx hb hK hB mbo tbo ai_67 (fun _ => rfl) (i_in (by omega) (by omega)) dX12_settles_57 (fun x_66 ex_66 lx_66 ux_66 => ?_)
      have qx_66 : x_66 = x_33 := ex_66.trans k_65
      have qx_66 := qx_66.symm
      subst qx_66
      refine lv_bipush (v := 11) hx hb dX12_settles_58 (by decide) ?_
      refine lv_icmp_ne (tgt := 0) hx hb dX12_settles_60 (by decide) (fun c_67 => ?_) (fun c_67 => ?_)
      · skip
        have uc_67 := i_ne (n := 11) (by decide) c_67
        have k_68 : σ_44 h0 11 = tx := (FR.at fσ_44 th0 (by decide)).trans k_43
        exact ih_8 ⟨σ_44, ρ_45⟩ _ _ _ ⟨k_68, k_48, k_50, k_52, ex_60, TP1, (by rw [k_54]; omega), (fun j hj h9 => by have z := g_16 j hj h9; rw [k_54]; by_cases e : j = (σ_6 h0 16).toInt.toNat - 1; (exfalso; rw [← rbo, e] at h9; omega); omega), (by rw [k_54]; omega), hB, hS, lv_sub hl [0, 1] rfl⟩ (by show (σ_44 h0 16).toInt.toNat < (σ_6 h0 16).toInt.toNat; rw [k_54]; omega)
      · skip
        have uc_67 := i_eq (n := 11) (by decide) c_67
        refine lv_aload_n hx hb dX12_settles_63 rfl (lv_at hl 0 rfl) ?_
        refine lv_dup hx hb dX12_settles_64 rfl ?_
        refine t_gi hx hb hts hown hK hB mh0 th0 fi_12_13 rfl mw_5_229 dX12_settles_65 (fun x_69 ex_69 lx_69 ux_69 => ?_)
        have cx_69 := congrArg Int32.toInt ex_69
        refine lv_iconst (v := 1) hx hb dX12_settles_68 (by decide) ?_
        refine lv_isub hx hb dX12_settles_69 ?_
        refine lv_topi (fun x_70 ex_70 => ?_)
        try have vx_70 := b_sub (rfl : x_69.toInt = _) (by decide : (1 : Int32).toInt = 1) ex_70 (by omega) (by omega)
        refine t_pi hx hb hts hown hK hLA hB hS mh0 th0 fi_12_13 rfl rfl rfl (i_lo _) (i_hi _) (Or.inl (by decide)) mw_5_229 dX12_settles_70 (fun H locs σ_71 eσ_71 hB hS => ?_)
        have k_72 : σ_71 h0 13 = x_70 := by rw [eσ_71]; exact up2_same _ _ _ _
        refine lv_goto (tgt := 0) hx hb dX12_settles_73 (by decide) ?_
        have k_73 : σ_44 h0 11 = tx := (FR.at fσ_44 th0 (by decide)).trans k_43
        have k_74 : σ_71 h0 11 = tx := by rw [eσ_71, up2_nej _ _ (by decide)]; exact k_73
        have k_75 : σ_71 h0 8 = (σ h0 8) := by rw [eσ_71, up2_nej _ _ (by decide)]; exact k_48
        have k_76 : σ_71 h0 1 = (σ h0 1) := by rw [eσ_71, up2_nej _ _ (by decide)]; exact k_50
        have k_77 : σ_71 h0 12 = (σ h0 12) := by rw [eσ_71, up2_nej _ _ (by decide)]; exact k_52
        have k_78a := congrFun eσ_71 bg
        rw [up2_row _ _ (tg_ne tbg th0 (by decide))] at k_78a
        have k_79a := congrFun eσ_71 bl
        rw [up2_row _ _ (tg_ne tbl th0 (by decide))] at k_79a
        have ex_80 : EX (σ bg) (σ bl) (σ_71 bg) (σ_71 bl) tx := by rw [(k_78a), (k_79a)]; exact ex_60
        have k_82a := congrFun eσ_71 bg
        rw [up2_row _ _ (tg_ne tbg th0 (by decide))] at k_82a
        have k_83a := congrFun eσ_71 bl
        rw [up2_row _ _ (tg_ne tbl th0 (by decide))] at k_83a
        have k_84a := congrFun eσ_71 bo
        rw [up2_row _ _ (tg_ne tbo th0 (by decide))] at k_84a
        have k_85 : σ_71 h0 16 = x_30 := by rw [eσ_71, up2_nej _ _ (by decide)]; exact k_54
        have TW_81 : TV σ_71 h0 bg bl bo tx w2 1 := TV.fr TP1 (k_82a) (k_83a) (k_84a) ((k_85).trans (k_54).symm) (by rw [k_77, k_52]; omega) (by rw [k_75, k_48]; omega)
        have TW_81n := TW_81.2.2.2
        have k_86 : σ_71 bl tx.toNatClampNeg = (σ_44 bl tx.toNatClampNeg) := by rw [eσ_71, up2_nea _ _ (tg_ne tbl th0 (by decide))]
        exact ih_8 ⟨σ_71, ρ_45⟩ _ _ _ ⟨k_74, k_75, k_76, k_77, ex_80, TW_81, (by rw [k_85]; omega), (fun j hj h9 => by have z := g_16 j hj h9; rw [k_85]; by_cases e : j = (σ_6 h0 16).toInt.toNat - 1; (exfalso; rw [← rbo, e] at h9; omega); omega), (by rw [k_86, k_85]; omega), hB, hS, lv_sub hl [0, 1] rfl⟩ (by show (σ_71 h0 16).toInt.toNat < (σ_6 h0 16).toInt.toNat; rw [k_85]; omega)
