/-! a clause of a rule: the code of its sum, and of its test -/
def SG (g k : Nat → Int32) (r q e : Nat) : Prop := 0 ≤ (k q).toInt ∧ (k q).toInt ≤ (k (q + 1)).toInt ∧ 400 * r + (k (q + 1)).toInt.toNat ≤ e ∧ dpt g (400 * r + (k q).toInt.toNat) ((k (q + 1)).toInt.toNat - (k q).toInt.toNat) = some 1
def CW (g k : Nat → Int32) (r c e : Nat) : Prop := SG g k r (48 * r + 4 * c) e ∧ ((k (48 * r + 4 * c + 2)).toInt < 0 ∨ SG g k r (48 * r + 4 * c + 2) e)
def WP (g k l : Nat → Int32) (n : Nat) (tx : Int32) : Prop := ∀ c : Nat, c < n → CW g k tx.toInt.toNat c (ee l tx)
theorem SD.z {g l : Nat → Int32} {tx : Int32} : SD g l tx (ee l tx) 0 := ⟨Nat.le_refl _, by rw [Nat.sub_self]; rfl⟩
theorem SG.mk {g g1 l0 l1 lf k : Nat → Int32} {tx : Int32} {q : Nat} (h0 : 0 ≤ (l0 tx.toNatClampNeg).toInt) (h1 : 0 ≤ (l1 tx.toNatClampNeg).toInt) (k0 : (k q).toInt = (l0 tx.toNatClampNeg).toInt) (k1 : (k (q + 1)).toInt = (l1 tx.toNatClampNeg).toInt) (S : SD g1 l1 tx (ee l0 tx) 1) (E : EX g1 l1 g lf tx) : SG g k tx.toInt.toNat q (ee lf tx) := by
  have a := S.1; have b := E.1; have s := S.2
  have ea : ee l0 tx = 400 * tx.toInt.toNat + (k q).toInt.toNat := by unfold ee; rw [k0]
  have eb : ee l1 tx = 400 * tx.toInt.toNat + (k (q + 1)).toInt.toNat := by unfold ee; rw [k1]
  refine ⟨by omega, by omega, by omega, ?_⟩
  rw [ea, eb] at s
  rw [dpt_fr (f := g1) (fun j _ hj => E.2 j (by omega)), ← s]
  congr 1; omega
theorem SG.fr {g g' k k' : Nat → Int32} {r q e e' : Nat} (h : SG g k r q e) (hg : ∀ j : Nat, j < e → g' j = g j) (h0 : k' q = k q) (h1 : k' (q + 1) = k (q + 1)) (he : e ≤ e') : SG g' k' r q e' := by
  obtain ⟨a, b, c, d⟩ := h
  unfold SG; rw [h0, h1]
  refine ⟨a, b, by omega, ?_⟩
  rw [dpt_fr (f := g) (fun j _ hj => hg j (by omega))]; exact d
theorem CW.fr {g g' k k' : Nat → Int32} {r c e e' : Nat} (h : CW g k r c e) (hg : ∀ j : Nat, j < e → g' j = g j) (hk : ∀ j : Nat, j < 48 * r + 4 * c + 4 → k' j = k j) (he : e ≤ e') : CW g' k' r c e' :=
  ⟨h.1.fr hg (hk _ (by omega)) (hk _ (by omega)) he, by rw [hk _ (by omega)]; exact h.2.imp id (fun z => z.fr hg (hk _ (by omega)) (hk _ (by omega)) he)⟩
theorem WP.fr {g g' k k' l l' : Nat → Int32} {n : Nat} {tx : Int32} (h : WP g k l n tx) (E : EX g l g' l' tx) (hk : ∀ j : Nat, j < 48 * tx.toInt.toNat + 4 * n → k' j = k j) : WP g' k' l' n tx :=
  fun c hc => (h c hc).fr E.2 (fun j hj => hk j (by omega)) E.1
theorem WP.add {g g' k k' l l' : Nat → Int32} {n : Nat} {tx : Int32} (h : WP g k l n tx) (E : EX g l g' l' tx) (hk : ∀ j : Nat, j < 48 * tx.toInt.toNat + 4 * n → k' j = k j) (hn : CW g' k' tx.toInt.toNat n (ee l' tx)) : WP g' k' l' (n + 1) tx :=
  fun c hc => if e : c < n then h.fr E hk c e else by rw [show c = n by omega]; exact hn
def KX (k k' c c' : Nat → Int32) (tx : Int32) : Prop := (∀ j : Nat, j < 48 * tx.toInt.toNat → k' j = k j) ∧ ∀ j : Nat, j ≠ tx.toNatClampNeg → c' j = c j
theorem KX.rf {k c : Nat → Int32} {tx : Int32} : KX k k c c tx := ⟨fun _ _ => rfl, fun _ _ => rfl⟩
theorem KX.tr {k k1 k2 c c1 c2 : Nat → Int32} {tx : Int32} (h : KX k k1 c c1 tx) (h' : KX k1 k2 c1 c2 tx) : KX k k2 c c2 tx := ⟨fun j hj => (h'.1 j hj).trans (h.1 j hj), fun j hj => (h'.2 j hj).trans (h.2 j hj)⟩
theorem mw_5_222 : (.fieldLink RX12 23 "HillBendsModel" "clauses" "[I" : Cond) ∈ wsA := wsA_t (List.mem_append_right _ (List.mem_append_right _ (List.mem_append_right _ (List.mem_append_right _ (List.mem_append_left _ (List.mem_of_getElem? (l := tables_1_5) (i := 222) rfl)))))) rfl
theorem mw_5_221 : (.fieldLink RX12 20 "HillBendsModel" "clause" "[I" : Cond) ∈ wsA := wsA_t (List.mem_append_right _ (List.mem_append_right _ (List.mem_append_right _ (List.mem_append_right _ (List.mem_append_left _ (List.mem_of_getElem? (l := tables_1_5) (i := 221) rfl)))))) rfl
theorem mw_7_9 : (.constantLong RX12 218 26982 : Cond) ∈ wsA := wsA_t (List.mem_append_right _ (List.mem_append_right _ (List.mem_append_right _ (List.mem_append_right _ (List.mem_append_right _ (List.mem_append_right _ (List.mem_append_left _ (List.mem_of_getElem? (l := tables_1_7) (i := 9) rfl)))))))) rfl
theorem mw_7_12 : (.instanceMethod yX12_takesWord : Cond) ∈ wsA := wsA_t (List.mem_append_right _ (List.mem_append_right _ (List.mem_append_right _ (List.mem_append_right _ (List.mem_append_right _ (List.mem_append_right _ (List.mem_append_left _ (List.mem_of_getElem? (l := tables_1_7) (i := 12) rfl)))))))) rfl
theorem mp_5_5 : (.selects RX12 yX12_takesWord yX12_takesWord : Cond) ∈ wsA := wsA_p (q := (yX12_takesWord, 44)) (List.mem_append_right _ (List.mem_append_right _ (List.mem_append_right _ (List.mem_append_right _ (List.mem_append_left _ (List.mem_of_getElem? (l := lw_privs_5) (i := 5) rfl))))))
theorem mw_7_13 : (.code yX12_takesWord cX12_takesWord 3 (some .boolean) : Cond) ∈ wsA := wsA_t (List.mem_append_right _ (List.mem_append_right _ (List.mem_append_right _ (List.mem_append_right _ (List.mem_append_right _ (List.mem_append_right _ (List.mem_append_left _ (List.mem_of_getElem? (l := tables_1_7) (i := 13) rfl)))))))) rfl
theorem mw_7_10 : (.methodLink RX12 220 yX12_takesWord : Cond) ∈ wsA := wsA_t (List.mem_append_right _ (List.mem_append_right _ (List.mem_append_right _ (List.mem_append_right _ (List.mem_append_right _ (List.mem_append_right _ (List.mem_append_left _ (List.mem_of_getElem? (l := tables_1_7) (i := 10) rfl)))))))) rfl
theorem mw_7_16 : (.instanceMethod yX12_tested : Cond) ∈ wsA := wsA_t (List.mem_append_right _ (List.mem_append_right _ (List.mem_append_right _ (List.mem_append_right _ (List.mem_append_right _ (List.mem_append_right _ (List.mem_append_left _ (List.mem_of_getElem? (l := tables_1_7) (i := 16) rfl)))))))) rfl
theorem mp_5_6 : (.selects RX12 yX12_tested yX12_tested : Cond) ∈ wsA := wsA_p (q := (yX12_tested, 44)) (List.mem_append_right _ (List.mem_append_right _ (List.mem_append_right _ (List.mem_append_right _ (List.mem_append_left _ (List.mem_of_getElem? (l := lw_privs_5) (i := 6) rfl))))))
theorem mw_7_17 : (.code yX12_tested cX12_tested 3 (some .boolean) : Cond) ∈ wsA := wsA_t (List.mem_append_right _ (List.mem_append_right _ (List.mem_append_right _ (List.mem_append_right _ (List.mem_append_right _ (List.mem_append_right _ (List.mem_append_left _ (List.mem_of_getElem? (l := tables_1_7) (i := 17) rfl)))))))) rfl
theorem mw_7_14 : (.methodLink RX12 223 yX12_tested : Cond) ∈ wsA := wsA_t (List.mem_append_right _ (List.mem_append_right _ (List.mem_append_right _ (List.mem_append_right _ (List.mem_append_right _ (List.mem_append_right _ (List.mem_append_left _ (List.mem_of_getElem? (l := tables_1_7) (i := 14) rfl)))))))) rfl
theorem dX12_isAskHere_0 : decode cX12_isAskHere 0 = .ok (.aload_n 0, 1) := by decide +kernel
theorem dX12_isAskHere_1 : decode cX12_isAskHere 1 = .ok (.invokevirtual 117, 3) := by decide +kernel
theorem dX12_isAskHere_4 : decode cX12_isAskHere 4 = .ok (.bipush 48, 2) := by decide +kernel
theorem dX12_isAskHere_6 : decode cX12_isAskHere 6 = .ok (.aload_n 0, 1) := by decide +kernel
theorem dX12_isAskHere_7 : decode cX12_isAskHere 7 = .ok (.getfield 154, 3) := by decide +kernel
theorem dX12_isAskHere_10 : decode cX12_isAskHere 10 = .ok (.imul, 1) := by decide +kernel
theorem dX12_isAskHere_11 : decode cX12_isAskHere 11 = .ok (.iconst 4, 1) := by decide +kernel
theorem dX12_isAskHere_12 : decode cX12_isAskHere 12 = .ok (.aload_n 0, 1) := by decide +kernel
theorem dX12_isAskHere_13 : decode cX12_isAskHere 13 = .ok (.getfield 23, 3) := by decide +kernel
theorem dX12_isAskHere_16 : decode cX12_isAskHere 16 = .ok (.aload_n 0, 1) := by decide +kernel
theorem dX12_isAskHere_17 : decode cX12_isAskHere 17 = .ok (.getfield 154, 3) := by decide +kernel
theorem dX12_isAskHere_20 : decode cX12_isAskHere 20 = .ok (.iaload, 1) := by decide +kernel
theorem dX12_isAskHere_21 : decode cX12_isAskHere 21 = .ok (.imul, 1) := by decide +kernel
theorem dX12_isAskHere_22 : decode cX12_isAskHere 22 = .ok (.iadd, 1) := by decide +kernel
theorem dX12_isAskHere_23 : decode cX12_isAskHere 23 = .ok (.istore_n 1, 1) := by decide +kernel
theorem dX12_isAskHere_24 : decode cX12_isAskHere 24 = .ok (.aload_n 0, 1) := by decide +kernel
theorem dX12_isAskHere_25 : decode cX12_isAskHere 25 = .ok (.getfield 20, 3) := by decide +kernel
theorem dX12_isAskHere_28 : decode cX12_isAskHere 28 = .ok (.iload_n 1, 1) := by decide +kernel
theorem dX12_isAskHere_29 : decode cX12_isAskHere 29 = .ok (.aload_n 0, 1) := by decide +kernel
theorem dX12_isAskHere_30 : decode cX12_isAskHere 30 = .ok (.getfield 17, 3) := by decide +kernel
theorem dX12_isAskHere_33 : decode cX12_isAskHere 33 = .ok (.aload_n 0, 1) := by decide +kernel
theorem dX12_isAskHere_34 : decode cX12_isAskHere 34 = .ok (.getfield 154, 3) := by decide +kernel
theorem dX12_isAskHere_37 : decode cX12_isAskHere 37 = .ok (.iaload, 1) := by decide +kernel
theorem dX12_isAskHere_38 : decode cX12_isAskHere 38 = .ok (.iastore, 1) := by decide +kernel
theorem dX12_isAskHere_39 : decode cX12_isAskHere 39 = .ok (.aload_n 0, 1) := by decide +kernel
theorem dX12_isAskHere_40 : decode cX12_isAskHere 40 = .ok (.invokevirtual 191, 3) := by decide +kernel
theorem dX12_isAskHere_43 : decode cX12_isAskHere 43 = .ok (.ifCond .ne 5, 3) := by decide +kernel
theorem dX12_isAskHere_48 : decode cX12_isAskHere 48 = .ok (.aload_n 0, 1) := by decide +kernel
theorem dX12_isAskHere_49 : decode cX12_isAskHere 49 = .ok (.getfield 20, 3) := by decide +kernel
theorem dX12_isAskHere_52 : decode cX12_isAskHere 52 = .ok (.iload_n 1, 1) := by decide +kernel
theorem dX12_isAskHere_53 : decode cX12_isAskHere 53 = .ok (.iconst 1, 1) := by decide +kernel
theorem dX12_isAskHere_54 : decode cX12_isAskHere 54 = .ok (.iadd, 1) := by decide +kernel
theorem dX12_isAskHere_55 : decode cX12_isAskHere 55 = .ok (.aload_n 0, 1) := by decide +kernel
theorem dX12_isAskHere_56 : decode cX12_isAskHere 56 = .ok (.getfield 17, 3) := by decide +kernel
theorem dX12_isAskHere_59 : decode cX12_isAskHere 59 = .ok (.aload_n 0, 1) := by decide +kernel
theorem dX12_isAskHere_60 : decode cX12_isAskHere 60 = .ok (.getfield 154, 3) := by decide +kernel
theorem dX12_isAskHere_63 : decode cX12_isAskHere 63 = .ok (.iaload, 1) := by decide +kernel
theorem dX12_isAskHere_64 : decode cX12_isAskHere 64 = .ok (.iastore, 1) := by decide +kernel
theorem dX12_isAskHere_65 : decode cX12_isAskHere 65 = .ok (.aload_n 0, 1) := by decide +kernel
theorem dX12_isAskHere_66 : decode cX12_isAskHere 66 = .ok (.getfield 20, 3) := by decide +kernel
theorem dX12_isAskHere_69 : decode cX12_isAskHere 69 = .ok (.iload_n 1, 1) := by decide +kernel
theorem dX12_isAskHere_70 : decode cX12_isAskHere 70 = .ok (.iconst 2, 1) := by decide +kernel
theorem dX12_isAskHere_71 : decode cX12_isAskHere 71 = .ok (.iadd, 1) := by decide +kernel
theorem dX12_isAskHere_72 : decode cX12_isAskHere 72 = .ok (.iconst (-1), 1) := by decide +kernel
theorem dX12_isAskHere_73 : decode cX12_isAskHere 73 = .ok (.iastore, 1) := by decide +kernel
theorem dX12_isAskHere_74 : decode cX12_isAskHere 74 = .ok (.aload_n 0, 1) := by decide +kernel
theorem dX12_isAskHere_75 : decode cX12_isAskHere 75 = .ok (.ldc2_w 218, 3) := by decide +kernel
theorem dX12_isAskHere_78 : decode cX12_isAskHere 78 = .ok (.invokevirtual 220, 3) := by decide +kernel
theorem dX12_isAskHere_81 : decode cX12_isAskHere 81 = .ok (.ifCond .eq 29, 3) := by decide +kernel
theorem dX12_isAskHere_110 : decode cX12_isAskHere 110 = .ok (.aload_n 0, 1) := by decide +kernel
theorem dX12_isAskHere_111 : decode cX12_isAskHere 111 = .ok (.getfield 20, 3) := by decide +kernel
theorem dX12_isAskHere_114 : decode cX12_isAskHere 114 = .ok (.iload_n 1, 1) := by decide +kernel
theorem dX12_isAskHere_115 : decode cX12_isAskHere 115 = .ok (.iconst 3, 1) := by decide +kernel
theorem dX12_isAskHere_116 : decode cX12_isAskHere 116 = .ok (.iadd, 1) := by decide +kernel
theorem dX12_isAskHere_117 : decode cX12_isAskHere 117 = .ok (.aload_n 0, 1) := by decide +kernel
theorem dX12_isAskHere_118 : decode cX12_isAskHere 118 = .ok (.getfield 17, 3) := by decide +kernel
theorem dX12_isAskHere_121 : decode cX12_isAskHere 121 = .ok (.aload_n 0, 1) := by decide +kernel
theorem dX12_isAskHere_122 : decode cX12_isAskHere 122 = .ok (.getfield 154, 3) := by decide +kernel
theorem dX12_isAskHere_125 : decode cX12_isAskHere 125 = .ok (.iaload, 1) := by decide +kernel
theorem dX12_isAskHere_126 : decode cX12_isAskHere 126 = .ok (.iastore, 1) := by decide +kernel
theorem dX12_isAskHere_127 : decode cX12_isAskHere 127 = .ok (.aload_n 0, 1) := by decide +kernel
theorem dX12_isAskHere_128 : decode cX12_isAskHere 128 = .ok (.getfield 23, 3) := by decide +kernel
theorem dX12_isAskHere_131 : decode cX12_isAskHere 131 = .ok (.aload_n 0, 1) := by decide +kernel
theorem dX12_isAskHere_132 : decode cX12_isAskHere 132 = .ok (.getfield 154, 3) := by decide +kernel
theorem dX12_isAskHere_135 : decode cX12_isAskHere 135 = .ok (.dup2, 1) := by decide +kernel
theorem dX12_isAskHere_136 : decode cX12_isAskHere 136 = .ok (.iaload, 1) := by decide +kernel
theorem dX12_isAskHere_137 : decode cX12_isAskHere 137 = .ok (.iconst 1, 1) := by decide +kernel
theorem dX12_isAskHere_138 : decode cX12_isAskHere 138 = .ok (.iadd, 1) := by decide +kernel
theorem dX12_isAskHere_139 : decode cX12_isAskHere 139 = .ok (.iastore, 1) := by decide +kernel
theorem dX12_isAskHere_140 : decode cX12_isAskHere 140 = .ok (.iconst 1, 1) := by decide +kernel
theorem dX12_isAskHere_141 : decode cX12_isAskHere 141 = .ok (.ireturn, 1) := by decide +kernel
theorem dX12_isAskHere_84 : decode cX12_isAskHere 84 = .ok (.aload_n 0, 1) := by decide +kernel
theorem dX12_isAskHere_85 : decode cX12_isAskHere 85 = .ok (.getfield 20, 3) := by decide +kernel
theorem dX12_isAskHere_88 : decode cX12_isAskHere 88 = .ok (.iload_n 1, 1) := by decide +kernel
theorem dX12_isAskHere_89 : decode cX12_isAskHere 89 = .ok (.iconst 2, 1) := by decide +kernel
theorem dX12_isAskHere_90 : decode cX12_isAskHere 90 = .ok (.iadd, 1) := by decide +kernel
theorem dX12_isAskHere_91 : decode cX12_isAskHere 91 = .ok (.aload_n 0, 1) := by decide +kernel
theorem dX12_isAskHere_92 : decode cX12_isAskHere 92 = .ok (.getfield 17, 3) := by decide +kernel
theorem dX12_isAskHere_95 : decode cX12_isAskHere 95 = .ok (.aload_n 0, 1) := by decide +kernel
theorem dX12_isAskHere_96 : decode cX12_isAskHere 96 = .ok (.getfield 154, 3) := by decide +kernel
theorem dX12_isAskHere_99 : decode cX12_isAskHere 99 = .ok (.iaload, 1) := by decide +kernel
theorem dX12_isAskHere_100 : decode cX12_isAskHere 100 = .ok (.iastore, 1) := by decide +kernel
theorem dX12_isAskHere_101 : decode cX12_isAskHere 101 = .ok (.aload_n 0, 1) := by decide +kernel
theorem dX12_isAskHere_102 : decode cX12_isAskHere 102 = .ok (.invokevirtual 223, 3) := by decide +kernel
theorem dX12_isAskHere_105 : decode cX12_isAskHere 105 = .ok (.ifCond .ne 5, 3) := by decide +kernel
theorem dX12_isAskHere_108 : decode cX12_isAskHere 108 = .ok (.iconst 0, 1) := by decide +kernel
theorem dX12_isAskHere_109 : decode cX12_isAskHere 109 = .ok (.ireturn, 1) := by decide +kernel
theorem dX12_isAskHere_46 : decode cX12_isAskHere 46 = .ok (.iconst 0, 1) := by decide +kernel
theorem dX12_isAskHere_47 : decode cX12_isAskHere 47 = .ok (.ireturn, 1) := by decide +kernel
theorem mv_X12_takesWord : MV RX12 yX12_takesWord cX12_takesWord 3 (some .boolean) 1 := ⟨mw_7_12, mp_5_5, mw_1_13, mw_7_13, ⟨rfl, by decide, by decide, by decide +kernel⟩⟩
theorem mv_X12_tested : MV RX12 yX12_tested cX12_tested 3 (some .boolean) 0 := ⟨mw_7_16, mp_5_6, mw_1_13, mw_7_17, ⟨rfl, by decide, by decide, by decide +kernel⟩⟩
set_option maxHeartbeats 4000000 in
set_option maxRecDepth 100000 in
theorem cz_X12_isAskHere (l : Launch) (D : va_G) (cA : Nat → ClassId) (L : List Nat) (T : Nat → Nat) (r : Rg) (hG : GR L T r) (hL : L.Nodup) (σ : Sg) (ρ : Lg) (hW : WT L ry T σ) (sz : Nat) (h0 : Nat) (mh0 : h0 ∈ L) (th0 : T h0 = 12) (bt : Nat) (hbt : r h0 0 = some bt) (mbt : bt ∈ L) (tbt : T bt = 61) (bg : Nat) (hbg : r h0 3 = some bg) (mbg : bg ∈ L) (tbg : T bg = 62) (bl : Nat) (hbl : r h0 4 = some bl) (mbl : bl ∈ L) (tbl : T bl = 63) (bk : Nat) (hbk : r h0 5 = some bk) (mbk : bk ∈ L) (tbk : T bk = 64) (bc : Nat) (hbc : r h0 6 = some bc) (mbc : bc ∈ L) (tbc : T bc = 65) (tx : Int32) (k0 : σ h0 11 = tx) (w0 : 0 ≤ tx.toInt) (w1 : tx.toInt ≤ 5) (w2 : (σ bl tx.toNatClampNeg).toInt ≤ (σ h0 8).toInt) (w3 : (σ bc tx.toNatClampNeg).toInt ≤ 11) : Met l yX12_isAskHere (.code yX12_isAskHere cX12_isAskHere 2 (some .boolean) :: wsA) ({ frames := 9, cells := 0, slots := 0, locals := 198 }) (PR D cA L T r σ ρ sz [.ref h0]) (QI D cA L T r ry [(12, 8), (12, 9), (12, 10), (12, 12), (12, 13), (12, 16), (62, 1000), (63, 1000), (64, 1000), (65, 1000), (67, 1000)] σ sz (fun x σ1 => (0 ≤ x.toInt ∧ x.toInt ≤ 1) ∧ ((σ h0 8).toInt ≤ (σ1 h0 8).toInt) ∧ (EX (σ bg) (σ bl) (σ1 bg) (σ1 bl) tx) ∧ (KX (σ bk) (σ1 bk) (σ bc) (σ1 bc) tx) ∧ (WP (σ bg) (σ bk) (σ bl) (σ bc tx.toNatClampNeg).toInt.toNat tx → WP (σ1 bg) (σ1 bk) (σ1 bl) (σ1 bc tx.toNatClampNeg).toInt.toNat tx) ∧ (x.toInt = 1 → (σ1 bl tx.toNatClampNeg).toInt ≤ (σ1 h0 8).toInt ∧ (σ1 bc tx.toNatClampNeg).toInt = (σ bc tx.toNatClampNeg).toInt + 1))) 0 0 (dm L sz) := by
  refine Met.ofW (cc := cX12_isAskHere) (maxL := 2) (ret := (some .boolean)) (by decide) rfl ?_
  intro p e s m args below meth c s₁ B hml hv
  obtain ⟨rfl, hsz, hP, hK, hN⟩ := hv
  have hx := B.exec
  have hb := B.bytes
  have hr := B.returns
  have hts : ∀ w ∈ wsA, w.before _ s = true := fun w h => atoms_spec (ws := .code yX12_isAskHere cX12_isAskHere 2 (some .boolean) :: wsA) B.pre w (List.mem_cons_of_mem _ h)
  have hown : s.vm.findClass RX12 = some m.cls := findClass_of_methodNamed B.named
  subst hsz
  have hLA : LA (dm L s.heap.size) L := ⟨hL, fun a h => Or.inl h⟩
  have hA : ∀ q : Nat, s.heap.size ≤ q → dm L s.heap.size q := fun q h => Or.inr h
  have hS : va_S (dm L s.heap.size) s.heap s.heap [] := va_S.rf
  have hB : TS D cA L T r ry [(12, 8), (12, 9), (12, 10), (12, 12), (12, 13), (12, 16), (62, 1000), (63, 1000), (64, 1000), (65, 1000), (67, 1000)] σ σ ρ s.heap := ⟨hP, hW, FR.rf⟩
  have hl := lv_entry ([.ref h0]) (n := 2) (Nat.le_of_ble_eq_true rfl)
  rw [lg_entry_eq]
  generalize (lg_sl ([.ref h0]) ++ List.replicate (2 - (lg_sl ([.ref h0])).length) Slot.unset).toArray = ls at hl ⊢
  have hl : lv_has ls 2 [(0, .ref h0)] := hl
  have w_1 : 0 ≤ (σ h0 8).toInt ∧ (σ h0 8).toInt ≤ 400 := by have z := hB.2.1 h0 mh0 8; rw [th0] at z; exact z
  have w_2 : 0 ≤ (σ h0 1).toInt ∧ (σ h0 1).toInt ≤ 400 := by have z := hB.2.1 h0 mh0 1; rw [th0] at z; exact z
  have w_3 : 0 ≤ (σ h0 12).toInt ∧ (σ h0 12).toInt ≤ 60 := by have z := hB.2.1 h0 mh0 12; rw [th0] at z; exact z
  have w_4 : 0 ≤ (σ bl tx.toNatClampNeg).toInt ∧ (σ bl tx.toNatClampNeg).toInt ≤ 400 := by have z := hB.2.1 bl mbl tx.toNatClampNeg; rw [tbl] at z; exact z
  have R0 : RLx σ σ h0 bg bl tx 0 0 := RLx.rf
  have w_5 : 0 ≤ (σ bc tx.toNatClampNeg).toInt ∧ (σ bc tx.toNatClampNeg).toInt ≤ 12 := by have z := hB.2.1 bc mbc tx.toNatClampNeg; rw [tbc] at z; exact z
  obtain ⟨q, hq⟩ : ∃ q : Nat, q = 48 * tx.toInt.toNat + 4 * (σ bc tx.toNatClampNeg).toInt.toNat := ⟨_, rfl⟩
  refine lv_aload_n hx hb dX12_isAskHere_0 rfl (lv_at hl 0 rfl) ?_
  refine t_cv (va_runV (As := []) (rest := []) ⟨hx, hb, hml, hown, hts⟩ (cz_X12_passWord l D cA L T r hG hLA.1 σ ρ hB.2.1 _ h0 mh0 th0 bt hbt mbt tbt) (cV hts mv_X12_passWord mw_6_169 rfl rfl ⟨Nat.le_of_ble_eq_true rfl, Nat.le_of_ble_eq_true rfl⟩) (pV hB.1 hK hN mh0 th0 (show shp cA 12 _ _ _ = .inr (12, Fs12 _ _ _) from rfl) rfl) rfl rfl hl.1 rfl (lv_room (Nat.le_of_ble_eq_true rfl)) dX12_isAskHere_1 ⟨Nat.le_of_ble_eq_true rfl, Nat.le_of_ble_eq_true rfl⟩) hLA hA hB hS (by decide) (fun σ_6 ρ_7 H locs hB fσ_6 pσ_6 hS => ?_)
  obtain ⟨g_9, g_10⟩ := pσ_6
  have w_11 : 0 ≤ (σ_6 h0 8).toInt ∧ (σ_6 h0 8).toInt ≤ 400 := by have z := hB.2.1 h0 mh0 8; rw [th0] at z; exact z
  have k_12 : σ_6 h0 1 = (σ h0 1) := (FR.at fσ_6 th0 (by decide)).trans rfl
  have cq_13 : (σ_6 h0 1).toInt = (σ h0 1).toInt := congrArg Int32.toInt k_12
  have k_14 : σ_6 h0 12 = (σ h0 12) := (FR.at fσ_6 th0 (by decide)).trans rfl
  have cq_15 : (σ_6 h0 12).toInt = (σ h0 12).toInt := congrArg Int32.toInt k_14
  have k_16 : σ_6 bl tx.toNatClampNeg = (σ bl tx.toNatClampNeg) := (FR.at fσ_6 tbl (by simp)).trans rfl
  have cq_17 : (σ_6 bl tx.toNatClampNeg).toInt = (σ bl tx.toNatClampNeg).toInt := congrArg Int32.toInt k_16
  have k_18 : σ_6 bc tx.toNatClampNeg = (σ bc tx.toNatClampNeg) := (FR.at fσ_6 tbc (by simp)).trans rfl
  have cq_19 : (σ_6 bc tx.toNatClampNeg).toInt = (σ bc tx.toNatClampNeg).toInt := congrArg Int32.toInt k_18
  refine lv_bipush (v := 48) hx hb dX12_isAskHere_4 (by decide) ?_
  refine lv_aload_n hx hb dX12_isAskHere_6 rfl (lv_at hl 0 rfl) ?_
  have k_20 : σ_6 h0 11 = tx := (FR.at fσ_6 th0 (by decide)).trans k0
  refine t_gv hx hb hts hown hK hB mh0 th0 fi_12_11 k_20 mw_5_227 dX12_isAskHere_7 ?_
  refine lv_imul hx hb dX12_isAskHere_10 ?_
  refine lv_topi (fun x_21 ex_21 => ?_)
  have vx_21 := b_mul (by decide : (48 : Int32).toInt = 48) (rfl : tx.toInt = _) ex_21 (by omega) (by omega)
  refine lv_iconst (v := 4) hx hb dX12_isAskHere_11 (by decide) ?_
  refine lv_aload_n hx hb dX12_isAskHere_12 rfl (lv_at hl 0 rfl) ?_
  refine t_gk hx hb hts hown hK hB mh0 th0 fq_12_6 hbc mw_5_222 dX12_isAskHere_13 ?_
  refine lv_aload_n hx hb dX12_isAskHere_16 rfl (lv_at hl 0 rfl) ?_
  refine t_gv hx hb hts hown hK hB mh0 th0 fi_12_11 k_20 mw_5_227 dX12_isAskHere_17 ?_
  refine t_ai hx hb hK hB mbc tbc ai_65 (fun _ => rfl) (i_in (by omega) (by omega)) dX12_isAskHere_20 (fun x_22 ex_22 lx_22 ux_22 => ?_)
  have qx_22 : x_22 = (σ bc tx.toNatClampNeg) := ex_22.trans k_18
  have qx_22 := qx_22.symm
  subst qx_22
  refine lv_imul hx hb dX12_isAskHere_21 ?_
  refine lv_topi (fun x_23 ex_23 => ?_)
  have vx_23 := b_mul (by decide : (4 : Int32).toInt = 4) (rfl : (σ bc tx.toNatClampNeg).toInt = _) ex_23 (by omega) (by omega)
  refine lv_iadd hx hb dX12_isAskHere_22 ?_
  refine lv_topi (fun x_24 ex_24 => ?_)
  have vx_24 := b_add (rfl : x_21.toInt = _) (rfl : x_23.toInt = _) ex_24 (by omega) (by omega)
  refine lv_istore_n (lv' := [(1, .int x_24), (0, .ref h0)]) hx hb dX12_isAskHere_23 rfl hl (by decide) rfl (fun ls hl => ?_)
  refine lv_aload_n hx hb dX12_isAskHere_24 rfl (lv_at hl 1 rfl) ?_
  refine t_gk hx hb hts hown hK hB mh0 th0 fq_12_5 hbk mw_5_221 dX12_isAskHere_25 ?_
  refine lv_iload_n hx hb dX12_isAskHere_28 rfl (lv_at hl 0 rfl) ?_
  refine lv_aload_n hx hb dX12_isAskHere_29 rfl (lv_at hl 1 rfl) ?_
  refine t_gk hx hb hts hown hK hB mh0 th0 fq_12_4 hbl mw_5_220 dX12_isAskHere_30 ?_
  refine lv_aload_n hx hb dX12_isAskHere_33 rfl (lv_at hl 1 rfl) ?_
  refine t_gv hx hb hts hown hK hB mh0 th0 fi_12_11 k_20 mw_5_227 dX12_isAskHere_34 ?_
  refine t_ai hx hb hK hB mbl tbl ai_63 (fun _ => rfl) (i_in (by omega) (by omega)) dX12_isAskHere_37 (fun x_25 ex_25 lx_25 ux_25 => ?_)
  have qx_25 : x_25 = (σ bl tx.toNatClampNeg) := ex_25.trans k_16
  have qx_25 := qx_25.symm
  subst qx_25
  refine t_si hx hb hK hLA hB hS mbk tbk ai_64 (i_in (by omega) (by omega)) (by show (-1) ≤ _; (first | omega | (subst_vars; omega))) (by show _ ≤ 400; (first | omega | (subst_vars; omega))) (Or.inr (by decide)) dX12_isAskHere_38 (fun H locs σ_26 eσ_26 hB hS => ?_)
  have k_27 : σ_26 bk x_24.toNatClampNeg = (σ bl tx.toNatClampNeg) := by rw [eσ_26]; exact up2_same _ _ _ _
  have ks_28 : ∀ j : Nat, σ_26 bk j = if j = q then (σ bl tx.toNatClampNeg) else σ_6 bk j := fun j => by rw [eσ_26, up2_if, show x_24.toNatClampNeg = q from (by have hn : x_24.toNatClampNeg = x_24.toInt.toNat := rfl; omega)]
  refine lv_aload_n hx hb dX12_isAskHere_39 rfl (lv_at hl 1 rfl) ?_
  have k_30 := FR.row fσ_6 tbg (fun j => by simp)
  have k_31a := congrFun eσ_26 bg
  rw [up2_row _ _ (tg_ne tbg tbk (by decide))] at k_31a
  have k_32 := FR.row fσ_6 tbl (fun j => by simp)
  have k_33a := congrFun eσ_26 bl
  rw [up2_row _ _ (tg_ne tbl tbk (by decide))] at k_33a
  have k_34 : σ_26 h0 12 = (σ h0 12) := by rw [eσ_26, up2_nea _ _ (tg_ne th0 tbk (by decide))]; exact k_14
  have k_35 : σ_26 h0 8 = (σ_6 h0 8) := by rw [eσ_26, up2_nea _ _ (tg_ne th0 tbk (by decide))]
  have R_29 : RLx σ σ_26 h0 bg bl tx 0 0 := RLx.fr 0 R0 ((k_31a).trans (k_30)) ((k_33a).trans (k_32)) (by rw [k_34]; omega) (by rw [k_35]; omega)
  have R_29n := R_29.2.1
  have cq_36 : (σ_26 h0 8).toInt = (σ_6 h0 8).toInt := congrArg Int32.toInt k_35
  have k_37 : σ_26 h0 1 = (σ h0 1) := by rw [eσ_26, up2_nea _ _ (tg_ne th0 tbk (by decide))]; exact k_12
  have cq_38 : (σ_26 h0 1).toInt = (σ h0 1).toInt := congrArg Int32.toInt k_37
  have cq_39 : (σ_26 h0 12).toInt = (σ h0 12).toInt := congrArg Int32.toInt k_34
  have k_40 : σ_26 bl tx.toNatClampNeg = (σ bl tx.toNatClampNeg) := by rw [eσ_26, up2_nea _ _ (tg_ne tbl tbk (by decide))]; exact k_16
  have cq_41 : (σ_26 bl tx.toNatClampNeg).toInt = (σ bl tx.toNatClampNeg).toInt := congrArg Int32.toInt k_40
  have k_42 : σ_26 bc tx.toNatClampNeg = (σ bc tx.toNatClampNeg) := by rw [eσ_26, up2_nea _ _ (tg_ne tbc tbk (by decide))]; exact k_18
  have cq_43 : (σ_26 bc tx.toNatClampNeg).toInt = (σ bc tx.toNatClampNeg).toInt := congrArg Int32.toInt k_42
  have k_44 : σ_26 h0 11 = tx := by rw [eσ_26, up2_nea _ _ (tg_ne th0 tbk (by decide))]; exact k_20
  refine t_ci (va_runV (As := []) (rest := []) ⟨hx, hb, hml, hown, hts⟩ (cz_X12_sum l D cA L T r hG hLA.1 σ_26 ρ_7 hB.2.1 _ h0 mh0 th0 bt hbt mbt tbt bg hbg mbg tbg bl hbl mbl tbl tx k_44 (by first | omega | decide) (by first | omega | decide) (by omega)) (cV hts mv_X12_sum mw_6_216 rfl rfl ⟨Nat.le_of_ble_eq_true rfl, Nat.le_of_ble_eq_true rfl⟩) (pV hB.1 hK hN mh0 th0 (show shp cA 12 _ _ _ = .inr (12, Fs12 _ _ _) from rfl) rfl) rfl rfl hl.1 rfl (lv_room (Nat.le_of_ble_eq_true rfl)) dX12_isAskHere_40 ⟨Nat.le_of_ble_eq_true rfl, Nat.le_of_ble_eq_true rfl⟩) hLA hA hB hS (by decide) (fun x_47 σ_45 ρ_46 H locs hB fσ_45 pσ_45 hS => ?_)
  obtain ⟨g_48, g_49, g_50, g_51⟩ := pσ_45
  have w_52 : 0 ≤ (σ_45 bl tx.toNatClampNeg).toInt ∧ (σ_45 bl tx.toNatClampNeg).toInt ≤ 400 := by have z := hB.2.1 bl mbl tx.toNatClampNeg; rw [tbl] at z; exact z
  have w_53 : 0 ≤ (σ_45 h0 8).toInt ∧ (σ_45 h0 8).toInt ≤ 400 := by have z := hB.2.1 h0 mh0 8; rw [th0] at z; exact z
  have w_54 : 0 ≤ (σ_45 h0 12).toInt ∧ (σ_45 h0 12).toInt ≤ 60 := by have z := hB.2.1 h0 mh0 12; rw [th0] at z; exact z
  have k_55 := FR.row fσ_6 tbg (fun j => by simp)
  have k_56a := congrFun eσ_26 bg
  rw [up2_row _ _ (tg_ne tbg tbk (by decide))] at k_56a
  have k_57 := FR.row fσ_6 tbl (fun j => by simp)
  have k_58a := congrFun eσ_26 bl
  rw [up2_row _ _ (tg_ne tbl tbk (by decide))] at k_58a
  have ex_59 : EX (σ bg) (σ bl) (σ_26 bg) (σ_26 bl) tx := by rw [((k_56a).trans (k_55)), ((k_58a).trans (k_57))]; exact EX.rf
  have ex_60 := EX.tr ex_59 g_50
  obtain ⟨lx_47, ux_47⟩ := g_48
  have k_61 : σ_45 h0 1 = (σ h0 1) := (FR.at fσ_45 th0 (by decide)).trans k_37
  have cq_62 : (σ_45 h0 1).toInt = (σ h0 1).toInt := congrArg Int32.toInt k_61
  have k_63 : σ_45 bc tx.toNatClampNeg = (σ bc tx.toNatClampNeg) := (FR.at fσ_45 tbc (by simp)).trans k_42
  have cq_64 : (σ_45 bc tx.toNatClampNeg).toInt = (σ bc tx.toNatClampNeg).toInt := congrArg Int32.toInt k_63
  refine lv_if_ne (tgt := 48) hx hb dX12_isAskHere_43 (by decide) (fun c_65 => ?_) (fun c_65 => ?_)
  · skip
    have uc_65 := i_ne (n := 0) (by decide) c_65
    have R_66 : RLx σ σ_45 h0 bg bl tx 1 0 := RLx.tr R_29 (g_51 (by omega))
    have R_66n := R_66.2.1
    have SA1 := (R_66.2.2 _ 0 SD.z (by omega)).1
    refine lv_aload_n hx hb dX12_isAskHere_48 rfl (lv_at hl 1 rfl) ?_
    refine t_gk hx hb hts hown hK hB mh0 th0 fq_12_5 hbk mw_5_221 dX12_isAskHere_49 ?_
    refine lv_iload_n hx hb dX12_isAskHere_52 rfl (lv_at hl 0 rfl) ?_
    refine lv_iconst (v := 1) hx hb dX12_isAskHere_53 (by decide) ?_
    refine lv_iadd hx hb dX12_isAskHere_54 ?_
    refine lv_topi (fun x_67 ex_67 => ?_)
    have vx_67 := b_add (rfl : x_24.toInt = _) (by decide : (1 : Int32).toInt = 1) ex_67 (by omega) (by omega)
    refine lv_aload_n hx hb dX12_isAskHere_55 rfl (lv_at hl 1 rfl) ?_
    refine t_gk hx hb hts hown hK hB mh0 th0 fq_12_4 hbl mw_5_220 dX12_isAskHere_56 ?_
    refine lv_aload_n hx hb dX12_isAskHere_59 rfl (lv_at hl 1 rfl) ?_
    have k_68 : σ_45 h0 11 = tx := (FR.at fσ_45 th0 (by decide)).trans k_44
    refine t_gv hx hb hts hown hK hB mh0 th0 fi_12_11 k_68 mw_5_227 dX12_isAskHere_60 ?_
    refine t_ai hx hb hK hB mbl tbl ai_63 (fun _ => rfl) (i_in (by omega) (by omega)) dX12_isAskHere_63 (fun x_69 ex_69 lx_69 ux_69 => ?_)
    have qx_69 : x_69 = (σ_45 bl tx.toNatClampNeg) := ex_69.trans rfl
    have qx_69 := qx_69.symm
    subst qx_69
    refine t_si hx hb hK hLA hB hS mbk tbk ai_64 (i_in (by omega) (by omega)) (by show (-1) ≤ _; (first | omega | (subst_vars; omega))) (by show _ ≤ 400; (first | omega | (subst_vars; omega))) (Or.inr (by decide)) dX12_isAskHere_64 (fun H locs σ_70 eσ_70 hB hS => ?_)
    have k_71 : σ_70 bk x_67.toNatClampNeg = (σ_45 bl tx.toNatClampNeg) := by rw [eσ_70]; exact up2_same _ _ _ _
    have ks_72 : ∀ j : Nat, σ_70 bk j = if j = q + 1 then (σ_45 bl tx.toNatClampNeg) else σ_45 bk j := fun j => by rw [eσ_70, up2_if, show x_67.toNatClampNeg = q + 1 from (by have hn : x_67.toNatClampNeg = x_67.toInt.toNat := rfl; omega)]
    refine lv_aload_n hx hb dX12_isAskHere_65 rfl (lv_at hl 1 rfl) ?_
    refine t_gk hx hb hts hown hK hB mh0 th0 fq_12_5 hbk mw_5_221 dX12_isAskHere_66 ?_
    refine lv_iload_n hx hb dX12_isAskHere_69 rfl (lv_at hl 0 rfl) ?_
    refine lv_iconst (v := 2) hx hb dX12_isAskHere_70 (by decide) ?_
    refine lv_iadd hx hb dX12_isAskHere_71 ?_
    refine lv_topi (fun x_73 ex_73 => ?_)
    have vx_73 := b_add (rfl : x_24.toInt = _) (by decide : (2 : Int32).toInt = 2) ex_73 (by omega) (by omega)
    refine lv_iconst (v := (-1)) hx hb dX12_isAskHere_72 (by decide) ?_
    refine t_si hx hb hK hLA hB hS mbk tbk ai_64 (i_in (by omega) (by omega)) (show (-1) ≤ ((-1) : Int32).toInt by decide) (show ((-1) : Int32).toInt ≤ 400 by decide) (Or.inr (by decide)) dX12_isAskHere_73 (fun H locs σ_74 eσ_74 hB hS => ?_)
    have k_75 : σ_74 bk x_73.toNatClampNeg = (-1) := by rw [eσ_74]; exact up2_same _ _ _ _
    have ks_76 : ∀ j : Nat, σ_74 bk j = if j = q + 2 then (-1) else σ_70 bk j := fun j => by rw [eσ_74, up2_if, show x_73.toNatClampNeg = q + 2 from (by have hn : x_73.toNatClampNeg = x_73.toInt.toNat := rfl; omega)]
    refine lv_aload_n hx hb dX12_isAskHere_74 rfl (lv_at hl 1 rfl) ?_
    refine lv_ldc2 (v := 26982) hx hb hown (hts _ mw_7_9) dX12_isAskHere_75 ?_
    have k_77 : σ_70 h0 8 = (σ_45 h0 8) := by rw [eσ_70, up2_nea _ _ (tg_ne th0 tbk (by decide))]
    have k_78 : σ_74 h0 8 = (σ_45 h0 8) := by rw [eσ_74, up2_nea _ _ (tg_ne th0 tbk (by decide))]; exact k_77
    have cq_79 : (σ_74 h0 8).toInt = (σ_45 h0 8).toInt := congrArg Int32.toInt k_78
    have k_80 : σ_70 h0 1 = (σ h0 1) := by rw [eσ_70, up2_nea _ _ (tg_ne th0 tbk (by decide))]; exact k_61
    have k_81 : σ_74 h0 1 = (σ h0 1) := by rw [eσ_74, up2_nea _ _ (tg_ne th0 tbk (by decide))]; exact k_80
    have cq_82 : (σ_74 h0 1).toInt = (σ h0 1).toInt := congrArg Int32.toInt k_81
    have k_83 : σ_70 h0 12 = (σ_45 h0 12) := by rw [eσ_70, up2_nea _ _ (tg_ne th0 tbk (by decide))]
    have k_84 : σ_74 h0 12 = (σ_45 h0 12) := by rw [eσ_74, up2_nea _ _ (tg_ne th0 tbk (by decide))]; exact k_83
    have cq_85 : (σ_74 h0 12).toInt = (σ_45 h0 12).toInt := congrArg Int32.toInt k_84
    have k_86 : σ_70 bl tx.toNatClampNeg = (σ_45 bl tx.toNatClampNeg) := by rw [eσ_70, up2_nea _ _ (tg_ne tbl tbk (by decide))]
    have k_87 : σ_74 bl tx.toNatClampNeg = (σ_45 bl tx.toNatClampNeg) := by rw [eσ_74, up2_nea _ _ (tg_ne tbl tbk (by decide))]; exact k_86
    have cq_88 : (σ_74 bl tx.toNatClampNeg).toInt = (σ_45 bl tx.toNatClampNeg).toInt := congrArg Int32.toInt k_87
    have k_89 : σ_70 bc tx.toNatClampNeg = (σ bc tx.toNatClampNeg) := by rw [eσ_70, up2_nea _ _ (tg_ne tbc tbk (by decide))]; exact k_63
    have k_90 : σ_74 bc tx.toNatClampNeg = (σ bc tx.toNatClampNeg) := by rw [eσ_74, up2_nea _ _ (tg_ne tbc tbk (by decide))]; exact k_89
    have cq_91 : (σ_74 bc tx.toNatClampNeg).toInt = (σ bc tx.toNatClampNeg).toInt := congrArg Int32.toInt k_90
    refine t_ci (va_runV (As := [.long 26982]) (rest := []) ⟨hx, hb, hml, hown, hts⟩ (cz_X12_takesWord l D cA L T r hG hLA.1 σ_74 ρ_46 hB.2.1 _ h0 mh0 th0 26982 bt hbt mbt tbt) (cV hts mv_X12_takesWord mw_7_10 rfl rfl ⟨Nat.le_of_ble_eq_true rfl, Nat.le_of_ble_eq_true rfl⟩) (pV hB.1 hK hN mh0 th0 (show shp cA 12 _ _ _ = .inr (12, Fs12 _ _ _) from rfl) rfl) rfl rfl hl.1 rfl (lv_room (Nat.le_of_ble_eq_true rfl)) dX12_isAskHere_78 ⟨Nat.le_of_ble_eq_true rfl, Nat.le_of_ble_eq_true rfl⟩) hLA hA hB hS (by decide) (fun x_94 σ_92 ρ_93 H locs hB fσ_92 pσ_92 hS => ?_)
    obtain ⟨g_95, g_96⟩ := pσ_92
    have w_97 : 0 ≤ (σ_92 h0 8).toInt ∧ (σ_92 h0 8).toInt ≤ 400 := by have z := hB.2.1 h0 mh0 8; rw [th0] at z; exact z
    obtain ⟨lx_94, ux_94⟩ := g_95
    have k_98 : σ_92 h0 1 = (σ h0 1) := (FR.at fσ_92 th0 (by decide)).trans k_81
    have cq_99 : (σ_92 h0 1).toInt = (σ h0 1).toInt := congrArg Int32.toInt k_98
    have k_100 : σ_92 h0 12 = (σ_45 h0 12) := (FR.at fσ_92 th0 (by decide)).trans k_84
    have cq_101 : (σ_92 h0 12).toInt = (σ_45 h0 12).toInt := congrArg Int32.toInt k_100
    have k_102 : σ_92 bl tx.toNatClampNeg = (σ_45 bl tx.toNatClampNeg) := (FR.at fσ_92 tbl (by simp)).trans k_87
    have cq_103 : (σ_92 bl tx.toNatClampNeg).toInt = (σ_45 bl tx.toNatClampNeg).toInt := congrArg Int32.toInt k_102
    have k_104 : σ_92 bc tx.toNatClampNeg = (σ bc tx.toNatClampNeg) := (FR.at fσ_92 tbc (by simp)).trans k_90
    have cq_105 : (σ_92 bc tx.toNatClampNeg).toInt = (σ bc tx.toNatClampNeg).toInt := congrArg Int32.toInt k_104
    refine lv_if_eq (tgt := 110) hx hb dX12_isAskHere_81 (by decide) (fun c_106 => ?_) (fun c_106 => ?_)
    · skip
      have uc_106 := i_eq (n := 0) (by decide) c_106
      refine lv_aload_n hx hb dX12_isAskHere_110 rfl (lv_at hl 1 rfl) ?_
      refine t_gk hx hb hts hown hK hB mh0 th0 fq_12_5 hbk mw_5_221 dX12_isAskHere_111 ?_
      refine lv_iload_n hx hb dX12_isAskHere_114 rfl (lv_at hl 0 rfl) ?_
      refine lv_iconst (v := 3) hx hb dX12_isAskHere_115 (by decide) ?_
      refine lv_iadd hx hb dX12_isAskHere_116 ?_
      refine lv_topi (fun x_107 ex_107 => ?_)
      have vx_107 := b_add (rfl : x_24.toInt = _) (by decide : (3 : Int32).toInt = 3) ex_107 (by omega) (by omega)
      refine lv_aload_n hx hb dX12_isAskHere_117 rfl (lv_at hl 1 rfl) ?_
      refine t_gk hx hb hts hown hK hB mh0 th0 fq_12_4 hbl mw_5_220 dX12_isAskHere_118 ?_
      refine lv_aload_n hx hb dX12_isAskHere_121 rfl (lv_at hl 1 rfl) ?_
      have k_108 : σ_70 h0 11 = tx := by rw [eσ_70, up2_nea _ _ (tg_ne th0 tbk (by decide))]; exact k_68
      have k_109 : σ_74 h0 11 = tx := by rw [eσ_74, up2_nea _ _ (tg_ne th0 tbk (by decide))]; exact k_108
      have k_110 : σ_92 h0 11 = tx := (FR.at fσ_92 th0 (by decide)).trans k_109
      refine t_gv hx hb hts hown hK hB mh0 th0 fi_12_11 k_110 mw_5_227 dX12_isAskHere_122 ?_
      refine t_ai hx hb hK hB mbl tbl ai_63 (fun _ => rfl) (i_in (by omega) (by omega)) dX12_isAskHere_125 (fun x_111 ex_111 lx_111 ux_111 => ?_)
      have qx_111 : x_111 = (σ_45 bl tx.toNatClampNeg) := ex_111.trans k_102
      have qx_111 := qx_111.symm
      subst qx_111
      refine t_si hx hb hK hLA hB hS mbk tbk ai_64 (i_in (by omega) (by omega)) (by show (-1) ≤ _; (first | omega | (subst_vars; omega))) (by show _ ≤ 400; (first | omega | (subst_vars; omega))) (Or.inr (by decide)) dX12_isAskHere_126 (fun H locs σ_112 eσ_112 hB hS => ?_)
      have k_113 : σ_112 bk x_107.toNatClampNeg = (σ_45 bl tx.toNatClampNeg) := by rw [eσ_112]; exact up2_same _ _ _ _
      have ks_114 : ∀ j : Nat, σ_112 bk j = if j = q + 3 then (σ_45 bl tx.toNatClampNeg) else σ_92 bk j := fun j => by rw [eσ_112, up2_if, show x_107.toNatClampNeg = q + 3 from (by have hn : x_107.toNatClampNeg = x_107.toInt.toNat := rfl; omega)]
      refine lv_aload_n hx hb dX12_isAskHere_127 rfl (lv_at hl 1 rfl) ?_
      refine t_gk hx hb hts hown hK hB mh0 th0 fq_12_6 hbc mw_5_222 dX12_isAskHere_128 ?_
      refine lv_aload_n hx hb dX12_isAskHere_131 rfl (lv_at hl 1 rfl) ?_
      have k_115 : σ_112 h0 11 = tx := by rw [eσ_112, up2_nea _ _ (tg_ne th0 tbk (by decide))]; exact k_110
      refine t_gv hx hb hts hown hK hB mh0 th0 fi_12_11 k_115 mw_5_227 dX12_isAskHere_132 ?_
      refine lv_dup2_11 hx hb dX12_isAskHere_135 rfl rfl ?_
      have k_116 : σ_112 bc tx.toNatClampNeg = (σ bc tx.toNatClampNeg) := by rw [eσ_112, up2_nea _ _ (tg_ne tbc tbk (by decide))]; exact k_104
      refine t_ai hx hb hK hB mbc tbc ai_65 (fun _ => rfl) (i_in (by omega) (by omega)) dX12_isAskHere_136 (fun x_117 ex_117 lx_117 ux_117 => ?_)
      have qx_117 : x_117 = (σ bc tx.toNatClampNeg) := ex_117.trans k_116
      have qx_117 := qx_117.symm
      subst qx_117
      refine lv_iconst (v := 1) hx hb dX12_isAskHere_137 (by decide) ?_
      refine lv_iadd hx hb dX12_isAskHere_138 ?_
      refine lv_topi (fun x_118 ex_118 => ?_)
      have vx_118 := b_add (rfl : (σ bc tx.toNatClampNeg).toInt = _) (by decide : (1 : Int32).toInt = 1) ex_118 (by omega) (by omega)
      refine t_si hx hb hK hLA hB hS mbc tbc ai_65 (i_in (by omega) (by omega)) (by show 0 ≤ _; (first | omega | (subst_vars; omega))) (by show _ ≤ 12; (first | omega | (subst_vars; omega))) (Or.inr (by decide)) dX12_isAskHere_139 (fun H locs σ_119 eσ_119 hB hS => ?_)
      have k_120 : σ_119 bc tx.toNatClampNeg = x_118 := by rw [eσ_119]; exact up2_same _ _ _ _
      have k_121a := congrFun eσ_70 bg
      rw [up2_row _ _ (tg_ne tbg tbk (by decide))] at k_121a
      have k_122a := congrFun eσ_74 bg
      rw [up2_row _ _ (tg_ne tbg tbk (by decide))] at k_122a
      have k_123 := FR.row fσ_92 tbg (fun j => by simp)
      have k_124a := congrFun eσ_112 bg
      rw [up2_row _ _ (tg_ne tbg tbk (by decide))] at k_124a
      have k_125a := congrFun eσ_119 bg
      rw [up2_row _ _ (tg_ne tbg tbc (by decide))] at k_125a
      have k_126a := congrFun eσ_70 bl
      rw [up2_row _ _ (tg_ne tbl tbk (by decide))] at k_126a
      have k_127a := congrFun eσ_74 bl
      rw [up2_row _ _ (tg_ne tbl tbk (by decide))] at k_127a
      have k_128 := FR.row fσ_92 tbl (fun j => by simp)
      have k_129a := congrFun eσ_112 bl
      rw [up2_row _ _ (tg_ne tbl tbk (by decide))] at k_129a
      have k_130a := congrFun eσ_119 bl
      rw [up2_row _ _ (tg_ne tbl tbc (by decide))] at k_130a
      have ex_131 : EX (σ bg) (σ bl) (σ_119 bg) (σ_119 bl) tx := by rw [((k_125a).trans ((k_124a).trans ((k_123).trans ((k_122a).trans (k_121a))))), ((k_130a).trans ((k_129a).trans ((k_128).trans ((k_127a).trans (k_126a)))))]; exact ex_60
      have k_133a := congrFun eσ_119 bk
      rw [up2_row _ _ (tg_ne tbk tbc (by decide))] at k_133a
      have k_134 := FR.row fσ_92 tbk (fun j => by simp)
      have k_135 := FR.row fσ_45 tbk (fun j => by simp)
      have k_136 := FR.row fσ_6 tbk (fun j => by simp)
      have ka_132 : ∀ j : Nat, j < q → σ_119 bk j = σ bk j := fun j hj => by rw [(k_133a), ks_114, if_neg (by omega), (k_134), ks_76, if_neg (by omega), ks_72, if_neg (by omega), (k_135), ks_28, if_neg (by omega), (k_136)]
      have k_137a := congrFun eσ_119 bk
      rw [up2_row _ _ (tg_ne tbk tbc (by decide))] at k_137a
      have k_138 := FR.row fσ_92 tbk (fun j => by simp)
      have k_139 := FR.row fσ_45 tbk (fun j => by simp)
      have kr0 : (σ_119 bk (q)).toInt = (σ bl tx.toNatClampNeg).toInt := by rw [(k_137a), ks_114, if_neg (by omega), (k_138), ks_76, if_neg (by omega), ks_72, if_neg (by omega), (k_139), ks_28, if_pos rfl]
      have k_140a := congrFun eσ_119 bk
      rw [up2_row _ _ (tg_ne tbk tbc (by decide))] at k_140a
      have k_141 := FR.row fσ_92 tbk (fun j => by simp)
      have kr1 : (σ_119 bk (q + 1)).toInt = (σ_45 bl tx.toNatClampNeg).toInt := by rw [(k_140a), ks_114, if_neg (by omega), (k_141), ks_76, if_neg (by omega), ks_72, if_pos rfl]
      have k_142a := congrFun eσ_119 bk
      rw [up2_row _ _ (tg_ne tbk tbc (by decide))] at k_142a
      have k_143 := FR.row fσ_92 tbk (fun j => by simp)
      have kr2 : (σ_119 bk (q + 2)).toInt = ((-1) : Int32).toInt := by rw [(k_142a), ks_114, if_neg (by omega), (k_143), ks_76, if_pos rfl]
      have k_144a := congrFun eσ_119 bk
      rw [up2_row _ _ (tg_ne tbk tbc (by decide))] at k_144a
      have kr3 : (σ_119 bk (q + 3)).toInt = (σ_45 bl tx.toNatClampNeg).toInt := by rw [(k_144a), ks_114, if_pos rfl]
      have kn1 : ((-1) : Int32).toInt = -1 := by decide
      have k_145a := congrFun eσ_70 bg
      rw [up2_row _ _ (tg_ne tbg tbk (by decide))] at k_145a
      have k_146a := congrFun eσ_74 bg
      rw [up2_row _ _ (tg_ne tbg tbk (by decide))] at k_146a
      have k_147 := FR.row fσ_92 tbg (fun j => by simp)
      have k_148a := congrFun eσ_112 bg
      rw [up2_row _ _ (tg_ne tbg tbk (by decide))] at k_148a
      have k_149a := congrFun eσ_119 bg
      rw [up2_row _ _ (tg_ne tbg tbc (by decide))] at k_149a
      have k_150a := congrFun eσ_70 bl
      rw [up2_row _ _ (tg_ne tbl tbk (by decide))] at k_150a
      have k_151a := congrFun eσ_74 bl
      rw [up2_row _ _ (tg_ne tbl tbk (by decide))] at k_151a
      have k_152 := FR.row fσ_92 tbl (fun j => by simp)
      have k_153a := congrFun eσ_112 bl
      rw [up2_row _ _ (tg_ne tbl tbk (by decide))] at k_153a
      have k_154a := congrFun eσ_119 bl
      rw [up2_row _ _ (tg_ne tbl tbc (by decide))] at k_154a
      have EB1 : EX (σ_45 bg) (σ_45 bl) (σ_119 bg) (σ_119 bl) tx := by rw [((k_149a).trans ((k_148a).trans ((k_147).trans ((k_146a).trans (k_145a))))), ((k_154a).trans ((k_153a).trans ((k_152).trans ((k_151a).trans (k_150a)))))]; exact EX.rf
      have SGs : SG (σ_119 bg) (σ_119 bk) tx.toInt.toNat q (ee (σ_119 bl) tx) := SG.mk (l0 := σ bl) (l1 := σ_45 bl) (by omega) (by omega) (by omega) (by omega) SA1 EB1
      have CWn : CW (σ_119 bg) (σ_119 bk) tx.toInt.toNat (σ bc tx.toNatClampNeg).toInt.toNat (ee (σ_119 bl) tx) := by unfold CW; rw [← hq]; exact ⟨SGs, Or.inl (by omega)⟩
      refine lv_iconst (v := 1) hx hb dX12_isAskHere_140 (by decide) ?_
      have k_155 : σ_112 h0 8 = (σ_92 h0 8) := by rw [eσ_112, up2_nea _ _ (tg_ne th0 tbk (by decide))]
      have k_156 : σ_119 h0 8 = (σ_92 h0 8) := by rw [eσ_119, up2_nea _ _ (tg_ne th0 tbc (by decide))]; exact k_155
      have k_158a := congrFun eσ_119 bk
      rw [up2_row _ _ (tg_ne tbk tbc (by decide))] at k_158a
      have k_159 := FR.row fσ_92 tbk (fun j => by simp)
      have k_160 := FR.row fσ_45 tbk (fun j => by simp)
      have k_161 := FR.row fσ_6 tbk (fun j => by simp)
      have ka_157 : ∀ j : Nat, j < q → σ_119 bk j = σ bk j := fun j hj => by rw [(k_158a), ks_114, if_neg (by omega), (k_159), ks_76, if_neg (by omega), ks_72, if_neg (by omega), (k_160), ks_28, if_neg (by omega), (k_161)]
      have k_162 := FR.row fσ_6 tbc (fun j => by simp)
      have k_163a := congrFun eσ_26 bc
      rw [up2_row _ _ (tg_ne tbc tbk (by decide))] at k_163a
      have k_164 := FR.row fσ_45 tbc (fun j => by simp)
      have k_165a := congrFun eσ_70 bc
      rw [up2_row _ _ (tg_ne tbc tbk (by decide))] at k_165a
      have k_166a := congrFun eσ_74 bc
      rw [up2_row _ _ (tg_ne tbc tbk (by decide))] at k_166a
      have k_167 := FR.row fσ_92 tbc (fun j => by simp)
      have k_168a := congrFun eσ_112 bc
      rw [up2_row _ _ (tg_ne tbc tbk (by decide))] at k_168a
      have k_169 : σ_112 bl tx.toNatClampNeg = (σ_45 bl tx.toNatClampNeg) := by rw [eσ_112, up2_nea _ _ (tg_ne tbl tbk (by decide))]; exact k_102
      have k_170 : σ_119 bl tx.toNatClampNeg = (σ_45 bl tx.toNatClampNeg) := by rw [eσ_119, up2_nea _ _ (tg_ne tbl tbc (by decide))]; exact k_169
      exact W.zret (v := 1) hx hb hr rfl (fun t ht hW => ⟨⟨1, (σ_119, ρ_93), rfl, ⟨hB.2.1, hB.2.2, ⟨(show 0 ≤ (1 : Int32).toInt ∧ (1 : Int32).toInt ≤ 1 from ⟨by decide, by decide⟩), (show (σ h0 8).toInt ≤ (σ_119 h0 8).toInt from (by rw [k_156]; omega)), (show EX (σ bg) (σ bl) (σ_119 bg) (σ_119 bl) tx from ex_131), (show KX (σ bk) (σ_119 bk) (σ bc) (σ_119 bc) tx from ⟨fun j hj => ka_157 j (by omega), fun j hj => by rw [eσ_119, up2_nej _ _ hj, ((k_168a).trans ((k_167).trans ((k_166a).trans ((k_165a).trans ((k_164).trans ((k_163a).trans (k_162)))))))]⟩), (show WP (σ bg) (σ bk) (σ bl) (σ bc tx.toNatClampNeg).toInt.toNat tx → WP (σ_119 bg) (σ_119 bk) (σ_119 bl) (σ_119 bc tx.toNatClampNeg).toInt.toNat tx from (fun hw => by rw [k_120, show x_118.toInt.toNat = (σ bc tx.toNatClampNeg).toInt.toNat + 1 by omega]; exact WP.add hw ex_131 (fun j hj => ka_132 j (by omega)) CWn)), (show (1 : Int32).toInt = 1 → (σ_119 bl tx.toNatClampNeg).toInt ≤ (σ_119 h0 8).toInt ∧ (σ_119 bc tx.toNatClampNeg).toInt = (σ bc tx.toNatClampNeg).toInt + 1 from (fun h => (by rw [k_170, k_156, k_120]; omega)))⟩⟩, (show TP D cA L T r σ_119 ρ_93 t.heap from by rw [ht]; exact hB.1)⟩, hS.F ht⟩) hS.2.2 dX12_isAskHere_141
    · skip
      have uc_106 := i_ne (n := 0) (by decide) c_106
      refine lv_aload_n hx hb dX12_isAskHere_84 rfl (lv_at hl 1 rfl) ?_
      refine t_gk hx hb hts hown hK hB mh0 th0 fq_12_5 hbk mw_5_221 dX12_isAskHere_85 ?_
      refine lv_iload_n hx hb dX12_isAskHere_88 rfl (lv_at hl 0 rfl) ?_
      refine lv_iconst (v := 2) hx hb dX12_isAskHere_89 (by decide) ?_
      refine lv_iadd hx hb dX12_isAskHere_90 ?_
      refine lv_topi (fun x_171 ex_171 => ?_)
      have vx_171 := b_add (rfl : x_24.toInt = _) (by decide : (2 : Int32).toInt = 2) ex_171 (by omega) (by omega)
      refine lv_aload_n hx hb dX12_isAskHere_91 rfl (lv_at hl 1 rfl) ?_
      refine t_gk hx hb hts hown hK hB mh0 th0 fq_12_4 hbl mw_5_220 dX12_isAskHere_92 ?_
      refine lv_aload_n hx hb dX12_isAskHere_95 rfl (lv_at hl 1 rfl) ?_
      have k_172 : σ_70 h0 11 = tx := by rw [eσ_70, up2_nea _ _ (tg_ne th0 tbk (by decide))]; exact k_68
      have k_173 : σ_74 h0 11 = tx := by rw [eσ_74, up2_nea _ _ (tg_ne th0 tbk (by decide))]; exact k_172
      have k_174 : σ_92 h0 11 = tx := (FR.at fσ_92 th0 (by decide)).trans k_173
      refine t_gv hx hb hts hown hK hB mh0 th0 fi_12_11 k_174 mw_5_227 dX12_isAskHere_96 ?_
      refine t_ai hx hb hK hB mbl tbl ai_63 (fun _ => rfl) (i_in (by omega) (by omega)) dX12_isAskHere_99 (fun x_175 ex_175 lx_175 ux_175 => ?_)
      have qx_175 : x_175 = (σ_45 bl tx.toNatClampNeg) := ex_175.trans k_102
      have qx_175 := qx_175.symm
      subst qx_175
      refine t_si hx hb hK hLA hB hS mbk tbk ai_64 (i_in (by omega) (by omega)) (by show (-1) ≤ _; (first | omega | (subst_vars; omega))) (by show _ ≤ 400; (first | omega | (subst_vars; omega))) (Or.inr (by decide)) dX12_isAskHere_100 (fun H locs σ_176 eσ_176 hB hS => ?_)
      have k_177 : σ_176 bk x_171.toNatClampNeg = (σ_45 bl tx.toNatClampNeg) := by rw [eσ_176]; exact up2_same _ _ _ _
      have ks_178 : ∀ j : Nat, σ_176 bk j = if j = q + 2 then (σ_45 bl tx.toNatClampNeg) else σ_92 bk j := fun j => by rw [eσ_176, up2_if, show x_171.toNatClampNeg = q + 2 from (by have hn : x_171.toNatClampNeg = x_171.toInt.toNat := rfl; omega)]
      refine lv_aload_n hx hb dX12_isAskHere_101 rfl (lv_at hl 1 rfl) ?_
      have k_179 : σ_176 h0 8 = (σ_92 h0 8) := by rw [eσ_176, up2_nea _ _ (tg_ne th0 tbk (by decide))]
      have cq_180 : (σ_176 h0 8).toInt = (σ_92 h0 8).toInt := congrArg Int32.toInt k_179
      have k_181 : σ_176 h0 1 = (σ h0 1) := by rw [eσ_176, up2_nea _ _ (tg_ne th0 tbk (by decide))]; exact k_98
      have cq_182 : (σ_176 h0 1).toInt = (σ h0 1).toInt := congrArg Int32.toInt k_181
      have k_183 : σ_176 h0 12 = (σ_45 h0 12) := by rw [eσ_176, up2_nea _ _ (tg_ne th0 tbk (by decide))]; exact k_100
      have cq_184 : (σ_176 h0 12).toInt = (σ_45 h0 12).toInt := congrArg Int32.toInt k_183
      have k_185 : σ_176 bl tx.toNatClampNeg = (σ_45 bl tx.toNatClampNeg) := by rw [eσ_176, up2_nea _ _ (tg_ne tbl tbk (by decide))]; exact k_102
      have cq_186 : (σ_176 bl tx.toNatClampNeg).toInt = (σ_45 bl tx.toNatClampNeg).toInt := congrArg Int32.toInt k_185
      have k_187 : σ_176 bc tx.toNatClampNeg = (σ bc tx.toNatClampNeg) := by rw [eσ_176, up2_nea _ _ (tg_ne tbc tbk (by decide))]; exact k_104
      have cq_188 : (σ_176 bc tx.toNatClampNeg).toInt = (σ bc tx.toNatClampNeg).toInt := congrArg Int32.toInt k_187
      obtain ⟨b_189, hb_189, mb_189, tb_189⟩ := hG h0 mh0 15 _ (by rw [th0]; rfl)
      have k_190 : σ_176 h0 11 = tx := by rw [eσ_176, up2_nea _ _ (tg_ne th0 tbk (by decide))]; exact k_174
      refine t_ci (va_runV (As := []) (rest := []) ⟨hx, hb, hml, hown, hts⟩ (cz_X12_tested l D cA L T r hG hLA.1 σ_176 ρ_93 hB.2.1 _ h0 mh0 th0 bt hbt mbt tbt bg hbg mbg tbg bl hbl mbl tbl b_189 hb_189 mb_189 tb_189 tx k_190 (by first | omega | decide) (by first | omega | decide) (ee (σ_176 bl) tx) SD.z (by rw [k_185, k_179]; omega)) (cV hts mv_X12_tested mw_7_14 rfl rfl ⟨Nat.le_of_ble_eq_true rfl, Nat.le_of_ble_eq_true rfl⟩) (pV hB.1 hK hN mh0 th0 (show shp cA 12 _ _ _ = .inr (12, Fs12 _ _ _) from rfl) rfl) rfl rfl hl.1 rfl (lv_room (Nat.le_of_ble_eq_true rfl)) dX12_isAskHere_102 ⟨Nat.le_of_ble_eq_true rfl, Nat.le_of_ble_eq_true rfl⟩) hLA hA hB hS (by decide) (fun x_193 σ_191 ρ_192 H locs hB fσ_191 pσ_191 hS => ?_)
      obtain ⟨g_194, g_195, g_196, g_197⟩ := pσ_191
      have w_198 : 0 ≤ (σ_191 bl tx.toNatClampNeg).toInt ∧ (σ_191 bl tx.toNatClampNeg).toInt ≤ 400 := by have z := hB.2.1 bl mbl tx.toNatClampNeg; rw [tbl] at z; exact z
      have w_199 : 0 ≤ (σ_191 h0 8).toInt ∧ (σ_191 h0 8).toInt ≤ 400 := by have z := hB.2.1 h0 mh0 8; rw [th0] at z; exact z
      have w_200 : 0 ≤ (σ_191 h0 12).toInt ∧ (σ_191 h0 12).toInt ≤ 60 := by have z := hB.2.1 h0 mh0 12; rw [th0] at z; exact z
      have k_201a := congrFun eσ_70 bg
      rw [up2_row _ _ (tg_ne tbg tbk (by decide))] at k_201a
      have k_202a := congrFun eσ_74 bg
      rw [up2_row _ _ (tg_ne tbg tbk (by decide))] at k_202a
      have k_203 := FR.row fσ_92 tbg (fun j => by simp)
      have k_204a := congrFun eσ_176 bg
      rw [up2_row _ _ (tg_ne tbg tbk (by decide))] at k_204a
      have k_205a := congrFun eσ_70 bl
      rw [up2_row _ _ (tg_ne tbl tbk (by decide))] at k_205a
      have k_206a := congrFun eσ_74 bl
      rw [up2_row _ _ (tg_ne tbl tbk (by decide))] at k_206a
      have k_207 := FR.row fσ_92 tbl (fun j => by simp)
      have k_208a := congrFun eσ_176 bl
      rw [up2_row _ _ (tg_ne tbl tbk (by decide))] at k_208a
      have ex_209 : EX (σ bg) (σ bl) (σ_176 bg) (σ_176 bl) tx := by rw [((k_204a).trans ((k_203).trans ((k_202a).trans (k_201a)))), ((k_208a).trans ((k_207).trans ((k_206a).trans (k_205a))))]; exact ex_60
      have ex_210 := EX.tr ex_209 g_196
      have w_211 : 0 ≤ (σ_191 h0 16).toInt ∧ (σ_191 h0 16).toInt ≤ 400 := by have z := hB.2.1 h0 mh0 16; rw [th0] at z; exact z
      obtain ⟨lx_193, ux_193⟩ := g_194
      have k_212 : σ_191 h0 1 = (σ h0 1) := (FR.at fσ_191 th0 (by decide)).trans k_181
      have cq_213 : (σ_191 h0 1).toInt = (σ h0 1).toInt := congrArg Int32.toInt k_212
      have k_214 : σ_191 bc tx.toNatClampNeg = (σ bc tx.toNatClampNeg) := (FR.at fσ_191 tbc (by simp)).trans k_187
      have cq_215 : (σ_191 bc tx.toNatClampNeg).toInt = (σ bc tx.toNatClampNeg).toInt := congrArg Int32.toInt k_214
      refine lv_if_ne (tgt := 110) hx hb dX12_isAskHere_105 (by decide) (fun c_216 => ?_) (fun c_216 => ?_)
      · skip
        have uc_216 := i_ne (n := 0) (by decide) c_216
        have SA2 := g_197 (by omega)
        have SA2n := SA2.2
        clear g_197
        refine lv_aload_n hx hb dX12_isAskHere_110 rfl (lv_at hl 1 rfl) ?_
        refine t_gk hx hb hts hown hK hB mh0 th0 fq_12_5 hbk mw_5_221 dX12_isAskHere_111 ?_
        refine lv_iload_n hx hb dX12_isAskHere_114 rfl (lv_at hl 0 rfl) ?_
        refine lv_iconst (v := 3) hx hb dX12_isAskHere_115 (by decide) ?_
        refine lv_iadd hx hb dX12_isAskHere_116 ?_
        refine lv_topi (fun x_217 ex_217 => ?_)
        have vx_217 := b_add (rfl : x_24.toInt = _) (by decide : (3 : Int32).toInt = 3) ex_217 (by omega) (by omega)
        refine lv_aload_n hx hb dX12_isAskHere_117 rfl (lv_at hl 1 rfl) ?_
        refine t_gk hx hb hts hown hK hB mh0 th0 fq_12_4 hbl mw_5_220 dX12_isAskHere_118 ?_
        refine lv_aload_n hx hb dX12_isAskHere_121 rfl (lv_at hl 1 rfl) ?_
        have k_218 : σ_191 h0 11 = tx := (FR.at fσ_191 th0 (by decide)).trans k_190
        refine t_gv hx hb hts hown hK hB mh0 th0 fi_12_11 k_218 mw_5_227 dX12_isAskHere_122 ?_
        refine t_ai hx hb hK hB mbl tbl ai_63 (fun _ => rfl) (i_in (by omega) (by omega)) dX12_isAskHere_125 (fun x_219 ex_219 lx_219 ux_219 => ?_)
        have qx_219 : x_219 = (σ_191 bl tx.toNatClampNeg) := ex_219.trans rfl
        have qx_219 := qx_219.symm
        subst qx_219
        refine t_si hx hb hK hLA hB hS mbk tbk ai_64 (i_in (by omega) (by omega)) (by show (-1) ≤ _; (first | omega | (subst_vars; omega))) (by show _ ≤ 400; (first | omega | (subst_vars; omega))) (Or.inr (by decide)) dX12_isAskHere_126 (fun H locs σ_220 eσ_220 hB hS => ?_)
        have k_221 : σ_220 bk x_217.toNatClampNeg = (σ_191 bl tx.toNatClampNeg) := by rw [eσ_220]; exact up2_same _ _ _ _
        have ks_222 : ∀ j : Nat, σ_220 bk j = if j = q + 3 then (σ_191 bl tx.toNatClampNeg) else σ_191 bk j := fun j => by rw [eσ_220, up2_if, show x_217.toNatClampNeg = q + 3 from (by have hn : x_217.toNatClampNeg = x_217.toInt.toNat := rfl; omega)]
        refine lv_aload_n hx hb dX12_isAskHere_127 rfl (lv_at hl 1 rfl) ?_
        refine t_gk hx hb hts hown hK hB mh0 th0 fq_12_6 hbc mw_5_222 dX12_isAskHere_128 ?_
        refine lv_aload_n hx hb dX12_isAskHere_131 rfl (lv_at hl 1 rfl) ?_
        have k_223 : σ_220 h0 11 = tx := by rw [eσ_220, up2_nea _ _ (tg_ne th0 tbk (by decide))]; exact k_218
        refine t_gv hx hb hts hown hK hB mh0 th0 fi_12_11 k_223 mw_5_227 dX12_isAskHere_132 ?_
        refine lv_dup2_11 hx hb dX12_isAskHere_135 rfl rfl ?_
        have k_224 : σ_220 bc tx.toNatClampNeg = (σ bc tx.toNatClampNeg) := by rw [eσ_220, up2_nea _ _ (tg_ne tbc tbk (by decide))]; exact k_214
        refine t_ai hx hb hK hB mbc tbc ai_65 (fun _ => rfl) (i_in (by omega) (by omega)) dX12_isAskHere_136 (fun x_225 ex_225 lx_225 ux_225 => ?_)
        have qx_225 : x_225 = (σ bc tx.toNatClampNeg) := ex_225.trans k_224
        have qx_225 := qx_225.symm
        subst qx_225
        refine lv_iconst (v := 1) hx hb dX12_isAskHere_137 (by decide) ?_
        refine lv_iadd hx hb dX12_isAskHere_138 ?_
        refine lv_topi (fun x_226 ex_226 => ?_)
        have vx_226 := b_add (rfl : (σ bc tx.toNatClampNeg).toInt = _) (by decide : (1 : Int32).toInt = 1) ex_226 (by omega) (by omega)
        refine t_si hx hb hK hLA hB hS mbc tbc ai_65 (i_in (by omega) (by omega)) (by show 0 ≤ _; (first | omega | (subst_vars; omega))) (by show _ ≤ 12; (first | omega | (subst_vars; omega))) (Or.inr (by decide)) dX12_isAskHere_139 (fun H locs σ_227 eσ_227 hB hS => ?_)
        have k_228 : σ_227 bc tx.toNatClampNeg = x_226 := by rw [eσ_227]; exact up2_same _ _ _ _
        have k_229a := congrFun eσ_220 bg
        rw [up2_row _ _ (tg_ne tbg tbk (by decide))] at k_229a
        have k_230a := congrFun eσ_227 bg
        rw [up2_row _ _ (tg_ne tbg tbc (by decide))] at k_230a
        have k_231a := congrFun eσ_220 bl
        rw [up2_row _ _ (tg_ne tbl tbk (by decide))] at k_231a
        have k_232a := congrFun eσ_227 bl
        rw [up2_row _ _ (tg_ne tbl tbc (by decide))] at k_232a
        have ex_233 : EX (σ bg) (σ bl) (σ_227 bg) (σ_227 bl) tx := by rw [((k_230a).trans (k_229a)), ((k_232a).trans (k_231a))]; exact ex_210
        have k_235a := congrFun eσ_227 bk
        rw [up2_row _ _ (tg_ne tbk tbc (by decide))] at k_235a
        have k_236 := FR.row fσ_191 tbk (fun j => by simp)
        have k_237 := FR.row fσ_92 tbk (fun j => by simp)
        have k_238 := FR.row fσ_45 tbk (fun j => by simp)
        have k_239 := FR.row fσ_6 tbk (fun j => by simp)
        have ka_234 : ∀ j : Nat, j < q → σ_227 bk j = σ bk j := fun j hj => by rw [(k_235a), ks_222, if_neg (by omega), (k_236), ks_178, if_neg (by omega), (k_237), ks_76, if_neg (by omega), ks_72, if_neg (by omega), (k_238), ks_28, if_neg (by omega), (k_239)]
        have k_240a := congrFun eσ_227 bk
        rw [up2_row _ _ (tg_ne tbk tbc (by decide))] at k_240a
        have k_241 := FR.row fσ_191 tbk (fun j => by simp)
        have k_242 := FR.row fσ_92 tbk (fun j => by simp)
        have k_243 := FR.row fσ_45 tbk (fun j => by simp)
        have kr0 : (σ_227 bk (q)).toInt = (σ bl tx.toNatClampNeg).toInt := by rw [(k_240a), ks_222, if_neg (by omega), (k_241), ks_178, if_neg (by omega), (k_242), ks_76, if_neg (by omega), ks_72, if_neg (by omega), (k_243), ks_28, if_pos rfl]
        have k_244a := congrFun eσ_227 bk
        rw [up2_row _ _ (tg_ne tbk tbc (by decide))] at k_244a
        have k_245 := FR.row fσ_191 tbk (fun j => by simp)
        have k_246 := FR.row fσ_92 tbk (fun j => by simp)
        have kr1 : (σ_227 bk (q + 1)).toInt = (σ_45 bl tx.toNatClampNeg).toInt := by rw [(k_244a), ks_222, if_neg (by omega), (k_245), ks_178, if_neg (by omega), (k_246), ks_76, if_neg (by omega), ks_72, if_pos rfl]
        have k_247a := congrFun eσ_227 bk
        rw [up2_row _ _ (tg_ne tbk tbc (by decide))] at k_247a
        have k_248 := FR.row fσ_191 tbk (fun j => by simp)
        have kr2 : (σ_227 bk (q + 2)).toInt = (σ_45 bl tx.toNatClampNeg).toInt := by rw [(k_247a), ks_222, if_neg (by omega), (k_248), ks_178, if_pos rfl]
        have k_249a := congrFun eσ_227 bk
        rw [up2_row _ _ (tg_ne tbk tbc (by decide))] at k_249a
        have kr3 : (σ_227 bk (q + 3)).toInt = (σ_191 bl tx.toNatClampNeg).toInt := by rw [(k_249a), ks_222, if_pos rfl]
        have kn1 : ((-1) : Int32).toInt = -1 := by decide
        have k_250a := congrFun eσ_220 bg
        rw [up2_row _ _ (tg_ne tbg tbk (by decide))] at k_250a
        have k_251a := congrFun eσ_227 bg
        rw [up2_row _ _ (tg_ne tbg tbc (by decide))] at k_251a
        have k_252a := congrFun eσ_220 bl
        rw [up2_row _ _ (tg_ne tbl tbk (by decide))] at k_252a
        have k_253a := congrFun eσ_227 bl
        rw [up2_row _ _ (tg_ne tbl tbc (by decide))] at k_253a
        have k_254a := congrFun eσ_70 bg
        rw [up2_row _ _ (tg_ne tbg tbk (by decide))] at k_254a
        have k_255a := congrFun eσ_74 bg
        rw [up2_row _ _ (tg_ne tbg tbk (by decide))] at k_255a
        have k_256 := FR.row fσ_92 tbg (fun j => by simp)
        have k_257a := congrFun eσ_176 bg
        rw [up2_row _ _ (tg_ne tbg tbk (by decide))] at k_257a
        have k_258a := congrFun eσ_70 bl
        rw [up2_row _ _ (tg_ne tbl tbk (by decide))] at k_258a
        have k_259a := congrFun eσ_74 bl
        rw [up2_row _ _ (tg_ne tbl tbk (by decide))] at k_259a
        have k_260 := FR.row fσ_92 tbl (fun j => by simp)
        have k_261a := congrFun eσ_176 bl
        rw [up2_row _ _ (tg_ne tbl tbk (by decide))] at k_261a
        have EB1 : EX (σ_45 bg) (σ_45 bl) (σ_227 bg) (σ_227 bl) tx := by rw [((k_251a).trans (k_250a)), ((k_253a).trans (k_252a))]; have z := g_196; rw [((k_257a).trans ((k_256).trans ((k_255a).trans (k_254a)))), ((k_261a).trans ((k_260).trans ((k_259a).trans (k_258a))))] at z; exact z
        have ED1 : EX (σ_191 bg) (σ_191 bl) (σ_227 bg) (σ_227 bl) tx := by rw [((k_251a).trans (k_250a)), ((k_253a).trans (k_252a))]; exact EX.rf
        have SGt : SG (σ_227 bg) (σ_227 bk) tx.toInt.toNat (q + 2) (ee (σ_227 bl) tx) := SG.mk (l0 := σ_176 bl) (l1 := σ_191 bl) (by omega) (by omega) (by omega) (by omega) SA2.1 ED1
        have SGs : SG (σ_227 bg) (σ_227 bk) tx.toInt.toNat q (ee (σ_227 bl) tx) := SG.mk (l0 := σ bl) (l1 := σ_45 bl) (by omega) (by omega) (by omega) (by omega) SA1 EB1
        have CWn : CW (σ_227 bg) (σ_227 bk) tx.toInt.toNat (σ bc tx.toNatClampNeg).toInt.toNat (ee (σ_227 bl) tx) := by unfold CW; rw [← hq]; exact ⟨SGs, Or.inr SGt⟩
        refine lv_iconst (v := 1) hx hb dX12_isAskHere_140 (by decide) ?_
        have k_262 : σ_220 h0 8 = (σ_191 h0 8) := by rw [eσ_220, up2_nea _ _ (tg_ne th0 tbk (by decide))]
        have k_263 : σ_227 h0 8 = (σ_191 h0 8) := by rw [eσ_227, up2_nea _ _ (tg_ne th0 tbc (by decide))]; exact k_262
        have k_265a := congrFun eσ_227 bk
        rw [up2_row _ _ (tg_ne tbk tbc (by decide))] at k_265a
        have k_266 := FR.row fσ_191 tbk (fun j => by simp)
        have k_267 := FR.row fσ_92 tbk (fun j => by simp)
        have k_268 := FR.row fσ_45 tbk (fun j => by simp)
        have k_269 := FR.row fσ_6 tbk (fun j => by simp)
        have ka_264 : ∀ j : Nat, j < q → σ_227 bk j = σ bk j := fun j hj => by rw [(k_265a), ks_222, if_neg (by omega), (k_266), ks_178, if_neg (by omega), (k_267), ks_76, if_neg (by omega), ks_72, if_neg (by omega), (k_268), ks_28, if_neg (by omega), (k_269)]
        have k_270 := FR.row fσ_6 tbc (fun j => by simp)
        have k_271a := congrFun eσ_26 bc
        rw [up2_row _ _ (tg_ne tbc tbk (by decide))] at k_271a
        have k_272 := FR.row fσ_45 tbc (fun j => by simp)
        have k_273a := congrFun eσ_70 bc
        rw [up2_row _ _ (tg_ne tbc tbk (by decide))] at k_273a
        have k_274a := congrFun eσ_74 bc
        rw [up2_row _ _ (tg_ne tbc tbk (by decide))] at k_274a
        have k_275 := FR.row fσ_92 tbc (fun j => by simp)
        have k_276a := congrFun eσ_176 bc
        rw [up2_row _ _ (tg_ne tbc tbk (by decide))] at k_276a
        have k_277 := FR.row fσ_191 tbc (fun j => by simp)
        have k_278a := congrFun eσ_220 bc
        rw [up2_row _ _ (tg_ne tbc tbk (by decide))] at k_278a
        have k_279 : σ_220 bl tx.toNatClampNeg = (σ_191 bl tx.toNatClampNeg) := by rw [eσ_220, up2_nea _ _ (tg_ne tbl tbk (by decide))]
        have k_280 : σ_227 bl tx.toNatClampNeg = (σ_191 bl tx.toNatClampNeg) := by rw [eσ_227, up2_nea _ _ (tg_ne tbl tbc (by decide))]; exact k_279
        exact W.zret (v := 1) hx hb hr rfl (fun t ht hW => ⟨⟨1, (σ_227, ρ_192), rfl, ⟨hB.2.1, hB.2.2, ⟨(show 0 ≤ (1 : Int32).toInt ∧ (1 : Int32).toInt ≤ 1 from ⟨by decide, by decide⟩), (show (σ h0 8).toInt ≤ (σ_227 h0 8).toInt from (by rw [k_263]; omega)), (show EX (σ bg) (σ bl) (σ_227 bg) (σ_227 bl) tx from ex_233), (show KX (σ bk) (σ_227 bk) (σ bc) (σ_227 bc) tx from ⟨fun j hj => ka_264 j (by omega), fun j hj => by rw [eσ_227, up2_nej _ _ hj, ((k_278a).trans ((k_277).trans ((k_276a).trans ((k_275).trans ((k_274a).trans ((k_273a).trans ((k_272).trans ((k_271a).trans (k_270)))))))))]⟩), (show WP (σ bg) (σ bk) (σ bl) (σ bc tx.toNatClampNeg).toInt.toNat tx → WP (σ_227 bg) (σ_227 bk) (σ_227 bl) (σ_227 bc tx.toNatClampNeg).toInt.toNat tx from (fun hw => by rw [k_228, show x_226.toInt.toNat = (σ bc tx.toNatClampNeg).toInt.toNat + 1 by omega]; exact WP.add hw ex_233 (fun j hj => ka_234 j (by omega)) CWn)), (show (1 : Int32).toInt = 1 → (σ_227 bl tx.toNatClampNeg).toInt ≤ (σ_227 h0 8).toInt ∧ (σ_227 bc tx.toNatClampNeg).toInt = (σ bc tx.toNatClampNeg).toInt + 1 from (fun h => (by rw [k_280, k_263, k_228]; omega)))⟩⟩, (show TP D cA L T r σ_227 ρ_192 t.heap from by rw [ht]; exact hB.1)⟩, hS.F ht⟩) hS.2.2 dX12_isAskHere_141
      · skip
        have uc_216 := i_eq (n := 0) (by decide) c_216
        refine lv_iconst (v := 0) hx hb dX12_isAskHere_108 (by decide) ?_
        have k_282 := FR.row fσ_191 tbk (fun j => by simp)
        have k_283 := FR.row fσ_92 tbk (fun j => by simp)
        have k_284 := FR.row fσ_45 tbk (fun j => by simp)
        have k_285 := FR.row fσ_6 tbk (fun j => by simp)
        have ka_281 : ∀ j : Nat, j < q → σ_191 bk j = σ bk j := fun j hj => by rw [(k_282), ks_178, if_neg (by omega), (k_283), ks_76, if_neg (by omega), ks_72, if_neg (by omega), (k_284), ks_28, if_neg (by omega), (k_285)]
        have k_286 := FR.row fσ_6 tbc (fun j => by simp)
        have k_287a := congrFun eσ_26 bc
        rw [up2_row _ _ (tg_ne tbc tbk (by decide))] at k_287a
        have k_288 := FR.row fσ_45 tbc (fun j => by simp)
        have k_289a := congrFun eσ_70 bc
        rw [up2_row _ _ (tg_ne tbc tbk (by decide))] at k_289a
        have k_290a := congrFun eσ_74 bc
        rw [up2_row _ _ (tg_ne tbc tbk (by decide))] at k_290a
        have k_291 := FR.row fσ_92 tbc (fun j => by simp)
        have k_292a := congrFun eσ_176 bc
        rw [up2_row _ _ (tg_ne tbc tbk (by decide))] at k_292a
        have k_293 := FR.row fσ_191 tbc (fun j => by simp)
        have k_295 := FR.row fσ_191 tbk (fun j => by simp)
        have k_296 := FR.row fσ_92 tbk (fun j => by simp)
        have k_297 := FR.row fσ_45 tbk (fun j => by simp)
        have k_298 := FR.row fσ_6 tbk (fun j => by simp)
        have ka_294 : ∀ j : Nat, j < q → σ_191 bk j = σ bk j := fun j hj => by rw [(k_295), ks_178, if_neg (by omega), (k_296), ks_76, if_neg (by omega), ks_72, if_neg (by omega), (k_297), ks_28, if_neg (by omega), (k_298)]
        exact W.zret (v := 0) hx hb hr rfl (fun t ht hW => ⟨⟨0, (σ_191, ρ_192), rfl, ⟨hB.2.1, hB.2.2, ⟨(show 0 ≤ (0 : Int32).toInt ∧ (0 : Int32).toInt ≤ 1 from ⟨by decide, by decide⟩), (show (σ h0 8).toInt ≤ (σ_191 h0 8).toInt from (by omega)), (show EX (σ bg) (σ bl) (σ_191 bg) (σ_191 bl) tx from ex_210), (show KX (σ bk) (σ_191 bk) (σ bc) (σ_191 bc) tx from ⟨fun j hj => ka_281 j (by omega), fun j _ => by rw [((k_293).trans ((k_292a).trans ((k_291).trans ((k_290a).trans ((k_289a).trans ((k_288).trans ((k_287a).trans (k_286))))))))]⟩), (show WP (σ bg) (σ bk) (σ bl) (σ bc tx.toNatClampNeg).toInt.toNat tx → WP (σ_191 bg) (σ_191 bk) (σ_191 bl) (σ_191 bc tx.toNatClampNeg).toInt.toNat tx from (fun hw => by rw [k_214]; exact WP.fr hw ex_210 (fun j hj => ka_294 j (by omega)))), (show (0 : Int32).toInt = 1 → (σ_191 bl tx.toNatClampNeg).toInt ≤ (σ_191 h0 8).toInt ∧ (σ_191 bc tx.toNatClampNeg).toInt = (σ bc tx.toNatClampNeg).toInt + 1 from (fun h => absurd h (by decide)))⟩⟩, (show TP D cA L T r σ_191 ρ_192 t.heap from by rw [ht]; exact hB.1)⟩, hS.F ht⟩) hS.2.2 dX12_isAskHere_109
  · skip
    have uc_65 := i_eq (n := 0) (by decide) c_65
    refine lv_iconst (v := 0) hx hb dX12_isAskHere_46 (by decide) ?_
    have k_300 := FR.row fσ_45 tbk (fun j => by simp)
    have k_301 := FR.row fσ_6 tbk (fun j => by simp)
    have ka_299 : ∀ j : Nat, j < q → σ_45 bk j = σ bk j := fun j hj => by rw [(k_300), ks_28, if_neg (by omega), (k_301)]
    have k_302 := FR.row fσ_6 tbc (fun j => by simp)
    have k_303a := congrFun eσ_26 bc
    rw [up2_row _ _ (tg_ne tbc tbk (by decide))] at k_303a
    have k_304 := FR.row fσ_45 tbc (fun j => by simp)
    have k_306 := FR.row fσ_45 tbk (fun j => by simp)
    have k_307 := FR.row fσ_6 tbk (fun j => by simp)
    have ka_305 : ∀ j : Nat, j < q → σ_45 bk j = σ bk j := fun j hj => by rw [(k_306), ks_28, if_neg (by omega), (k_307)]
    exact W.zret (v := 0) hx hb hr rfl (fun t ht hW => ⟨⟨0, (σ_45, ρ_46), rfl, ⟨hB.2.1, hB.2.2, ⟨(show 0 ≤ (0 : Int32).toInt ∧ (0 : Int32).toInt ≤ 1 from ⟨by decide, by decide⟩), (show (σ h0 8).toInt ≤ (σ_45 h0 8).toInt from (by omega)), (show EX (σ bg) (σ bl) (σ_45 bg) (σ_45 bl) tx from ex_60), (show KX (σ bk) (σ_45 bk) (σ bc) (σ_45 bc) tx from ⟨fun j hj => ka_299 j (by omega), fun j _ => by rw [((k_304).trans ((k_303a).trans (k_302)))]⟩), (show WP (σ bg) (σ bk) (σ bl) (σ bc tx.toNatClampNeg).toInt.toNat tx → WP (σ_45 bg) (σ_45 bk) (σ_45 bl) (σ_45 bc tx.toNatClampNeg).toInt.toNat tx from (fun hw => by rw [k_63]; exact WP.fr hw ex_60 (fun j hj => ka_305 j (by omega)))), (show (0 : Int32).toInt = 1 → (σ_45 bl tx.toNatClampNeg).toInt ≤ (σ_45 h0 8).toInt ∧ (σ_45 bc tx.toNatClampNeg).toInt = (σ bc tx.toNatClampNeg).toInt + 1 from (fun h => absurd h (by decide)))⟩⟩, (show TP D cA L T r σ_45 ρ_46 t.heap from by rw [ht]; exact hB.1)⟩, hS.F ht⟩) hS.2.2 dX12_isAskHere_47
