/-! ===== constructors over typed pools ===== -/
def CM (L : List Nat) (T : Nat → Nat) (r : Rg) (σ : Sg) (a : Nat) : Prop := (∀ k t : Nat, fT (T a) k = some t → ∃ b : Nat, r a k = some b ∧ b ∈ L ∧ T b = t) ∧ ∀ j : Nat, σ a j = ini (T a) j
/-- all stays, but at x; there may be more -/
def MO (x : Nat) (L : List Nat) (T : Nat → Nat) (r : Rg) (σ : Sg) (L1 : List Nat) (T1 : Nat → Nat) (r1 : Rg) (σ1 : Sg) : Prop := ∀ a ∈ L, a ∈ L1 ∧ T1 a = T a ∧ (a ≠ x → r1 a = r a ∧ σ1 a = σ a)
/-- a row of references that is being filled: (field of h0, address, tag, how many) -/
def PA (h0 : Nat) (q : Nat × Nat × Nat × Nat) (L0 L : List Nat) (T : Nat → Nat) (r : Rg) (σ : Sg) : Prop := q.2.1 ∈ L ∧ q.2.1 ∉ L0 ∧ T q.2.1 = q.2.2.1 ∧ r h0 q.1 = some q.2.1 ∧ (∀ k : Nat, k < q.2.2.2 → ∃ b t : Nat, fT q.2.2.1 k = some t ∧ r q.2.1 k = some b ∧ b ∈ L ∧ T b = t) ∧ ∀ j : Nat, σ q.2.1 j = 0
def KS (D : va_G) (cA : Nat → ClassId) (A : Nat → Prop) (L0 : List Nat) (T0 : Nat → Nat) (r0 : Rg) (σ0 : Sg) (h0 : Nat) (xs : List Nat) (ps : List (Nat × Nat × Nat × Nat)) (X n : Nat) (f : Nat → Int32) (L : List Nat) (T : Nat → Nat) (r : Rg) (σ : Sg) (ρ : Lg) (H : Heap) : Prop :=
  TP D cA L T r σ ρ H ∧ LA A L ∧ MO h0 L0 T0 r0 σ0 L T r σ ∧ (∀ a ∈ L, a ∉ L0 → a ∉ xs → (∀ q ∈ ps, a ≠ q.2.1) → CM L T r σ a) ∧ (∀ k : Nat, k < n → ∀ t : Nat, fT X k = some t → ∃ b : Nat, r h0 k = some b ∧ b ∈ L ∧ T b = t) ∧ (∀ j : Nat, σ h0 j = f j) ∧ (h0 ∈ L0 ∧ T0 h0 = X) ∧ ∀ q ∈ ps, PA h0 q L0 L T r σ
section KC
variable {D : va_G} {cA : Nat → ClassId} {A : Nat → Prop} {L0 L L1 : List Nat} {T0 T T1 : Nat → Nat} {r0 r r1 : Rg} {σ0 σ σ1 : Sg} {ρ ρ1 : Lg} {h0 x a : Nat} {xs xs1 : List Nat} {ps : List (Nat × Nat × Nat × Nat)} {X n : Nat} {f : Nat → Int32} {H H1 : Heap}
theorem CM.mo (h : CM L T r σ a) (ha : a ∈ L) (hne : a ≠ x) (hm : MO x L T r σ L1 T1 r1 σ1) : CM L1 T1 r1 σ1 a := by
  obtain ⟨h1, h2, h3⟩ := hm a ha
  obtain ⟨h4, h5⟩ := h3 hne
  refine ⟨fun k t hk => ?_, fun j => ?_⟩
  · rw [h2] at hk
    obtain ⟨b, g1, g2, g3⟩ := h.1 k t hk
    obtain ⟨i1, i2, _⟩ := hm b g2
    exact ⟨b, by rw [h4]; exact g1, i1, by rw [i2]; exact g3⟩
  · rw [h5, h2]; exact h.2 j
theorem KS.top (h : KS D cA A L0 T0 r0 σ0 h0 xs ps X n f L T r σ ρ H) : h0 ∈ L ∧ T h0 = X := by
  obtain ⟨_, _, h3, _, _, _, h7, _⟩ := h
  obtain ⟨g1, g2, _⟩ := h3 h0 h7.1
  exact ⟨g1, g2.trans h7.2⟩
theorem KS.grow (h : KS D cA A L0 T0 r0 σ0 h0 xs ps X n f L T r σ ρ H) (hm : MO x L T r σ L1 T1 r1 σ1) (hx : x ∉ L0) (hxp : ∀ q ∈ ps, x ≠ q.2.1) (hP : TP D cA L1 T1 r1 σ1 ρ1 H1) (hLA : LA A L1) (hnew : ∀ a ∈ L1, a ∉ xs1 → (a ∉ L ∨ a = x ∨ a ∈ xs) → CM L1 T1 r1 σ1 a) : KS D cA A L0 T0 r0 σ0 h0 xs1 ps X n f L1 T1 r1 σ1 ρ1 H1 := by
  have hh := h.top
  obtain ⟨_, _, h3, h4, h5, h6, h7, h8⟩ := h
  have hne : h0 ≠ x := fun e => hx (e ▸ h7.1)
  obtain ⟨k1, k2, k3⟩ := hm h0 hh.1
  obtain ⟨k4, k5⟩ := k3 hne
  refine ⟨hP, hLA, fun a ha => ?_, fun a ha h0' hxs hps => ?_, fun k hk t ht => ?_, fun j => by rw [k5]; exact h6 j, h7, fun q hq => ?_⟩
  · obtain ⟨g1, g2, g3⟩ := h3 a ha
    obtain ⟨i1, i2, i3⟩ := hm a g1
    have hax : a ≠ x := fun e => hx (e ▸ ha)
    refine ⟨i1, i2.trans g2, fun hah => ?_⟩
    exact ⟨(i3 hax).1.trans (g3 hah).1, (i3 hax).2.trans (g3 hah).2⟩
  · by_cases hc : a ∉ L ∨ a = x ∨ a ∈ xs
    · exact hnew a ha hxs hc
    · have c1 : a ∈ L := Classical.byContradiction fun e => hc (Or.inl e)
      have c2 : a ≠ x := fun e => hc (Or.inr (Or.inl e))
      have c3 : a ∉ xs := fun e => hc (Or.inr (Or.inr e))
      exact (h4 a c1 h0' c3 hps).mo c1 c2 hm
  · obtain ⟨b, g1, g2, g3⟩ := h5 k hk t ht
    obtain ⟨i1, i2, _⟩ := hm b g2
    exact ⟨b, by rw [k4]; exact g1, i1, i2.trans g3⟩
  · obtain ⟨q1, q2, q3, q4, q5, q6⟩ := h8 q hq
    obtain ⟨i1, i2, i3⟩ := hm q.2.1 q1
    have hqx : q.2.1 ≠ x := fun e => hxp q hq e.symm
    obtain ⟨i4, i5⟩ := i3 hqx
    refine ⟨i1, q2, i2.trans q3, by rw [k4]; exact q4, fun k hk => ?_, fun j => by rw [i5]; exact q6 j⟩
    obtain ⟨b, t, g0, g1, g2, g3⟩ := q5 k hk
    obtain ⟨j1, j2, _⟩ := hm b g2
    exact ⟨b, t, g0, by rw [i4]; exact g1, j1, j2.trans g3⟩
theorem pl_new {f : Nat → va_E} {q : Nat} {e0 : va_E} (h : va_D A (va_pl L f ++ [(q, e0)])) : q ∉ L ∧ A q := by
  have hlast : (va_pl L f ++ [(q, e0)])[(va_pl L f).length]? = some (q, e0) := by simp
  refine ⟨fun hq => ?_, h.2 _ _ hlast⟩
  obtain ⟨k, hk⟩ := List.getElem?_of_mem (show (q, f q) ∈ va_pl L f from List.mem_map.mpr ⟨q, hq, rfl⟩)
  have hlt := (List.getElem?_eq_some_iff.mp hk).1
  have h2 : (va_pl L f ++ [(q, e0)])[k]? = some (q, f q) := by rw [List.getElem?_append_left hlt]; exact hk
  have := h.1 k _ _ _ h2 hlast rfl
  omega
theorem cel_new {q t : Nat} {e0 : va_E} (he : shp cA t (fun _ => none) (fun _ => 0) (fun _ => 0) = e0) : va_up (cel cA T r σ ρ) q e0 = cel cA (va_up T q t) (va_up r q (fun _ => none)) (va_up σ q (fun _ => 0)) (va_up ρ q (fun _ => 0)) := by
  funext b
  by_cases hb : b = q
  · subst hb; simp [va_up, cel]; exact he.symm
  · simp [va_up, cel, hb]
theorem TP.new {q t : Nat} {e0 : va_E} (he : shp cA t (fun _ => none) (fun _ => 0) (fun _ => 0) = e0) (hq : q ∉ L) (h : va_P D vwCl (va_pl L (cel cA T r σ ρ) ++ [(q, e0)]) H1) : TP D cA (L ++ [q]) (va_up T q t) (va_up r q (fun _ => none)) (va_up σ q (fun _ => 0)) (va_up ρ q (fun _ => 0)) H1 := by
  rw [va_pl_push hq, cel_new he] at h
  exact h
theorem LA.new {q : Nat} (h : LA A L) (hq : q ∉ L) (hA : A q) : LA A (L ++ [q]) := by
  refine ⟨?_, fun a ha => ?_⟩
  · rw [List.nodup_append]
    refine ⟨h.1, by simp, fun a ha b hb => ?_⟩
    have : b = q := by simpa using hb
    subst this
    exact fun e => hq (e ▸ ha)
  · rcases List.mem_append.mp ha with ha | ha
    · exact h.2 a ha
    · have : a = q := by simpa using ha
      subst this
      exact hA
theorem MO.new {q t : Nat} (hq : q ∉ L) : MO q L T r σ (L ++ [q]) (va_up T q t) (va_up r q (fun _ => none)) (va_up σ q (fun _ => 0)) := by
  intro a ha
  have hne : a ≠ q := fun e => hq (e ▸ ha)
  exact ⟨List.mem_append_left _ ha, va_up_ne _ _ hne, fun _ => ⟨va_up_ne _ _ hne, va_up_ne _ _ hne⟩⟩
/-- a new cell that is whole at once -/
theorem KS.newC {q t : Nat} {e0 : va_E} (h : KS D cA A L0 T0 r0 σ0 h0 [] ps X n f L T r σ ρ H) (he : shp cA t (fun _ => none) (fun _ => 0) (fun _ => 0) = e0) (hf : ∀ k, fT t k = none) (hi : ∀ j, ini t j = 0) (hP : va_P D vwCl (va_pl L (cel cA T r σ ρ) ++ [(q, e0)]) H1) (hD : va_D A (va_pl L (cel cA T r σ ρ) ++ [(q, e0)])) : ∃ (L1 : List Nat) (T1 : Nat → Nat) (r1 : Rg) (σ1 : Sg) (ρ1 : Lg), KS D cA A L0 T0 r0 σ0 h0 [] ps X n f L1 T1 r1 σ1 ρ1 H1 ∧ q ∈ L1 ∧ T1 q = t := by
  obtain ⟨hq, hA⟩ := pl_new hD
  have hL0 : q ∉ L0 := fun e => hq (h.2.2.1 q e).1
  refine ⟨_, _, _, _, _, h.grow (MO.new (t := t) hq) hL0 (fun z hz e => hq (e ▸ (h.2.2.2.2.2.2.2 z hz).1)) (TP.new he hq hP) (h.2.1.new hq hA) (fun a ha _ hc => ?_), List.mem_append_right _ (List.mem_singleton.mpr rfl), va_up_self _ _ _⟩
  have haq : a = q := by
    rcases hc with hc | hc | hc
    · rcases List.mem_append.mp ha with ha | ha
      · exact absurd ha hc
      · simpa using ha
    · exact hc
    · cases hc
  subst haq
  refine ⟨fun k t' hk => ?_, fun j => ?_⟩
  · rw [va_up_self, hf] at hk; cases hk
  · rw [va_up_self, va_up_self, hi]
/-- a new cell that is to be filled -/
theorem KS.newX {q t : Nat} {e0 : va_E} (h : KS D cA A L0 T0 r0 σ0 h0 [] ps X n f L T r σ ρ H) (he : shp cA t (fun _ => none) (fun _ => 0) (fun _ => 0) = e0) (hP : va_P D vwCl (va_pl L (cel cA T r σ ρ) ++ [(q, e0)]) H1) (hD : va_D A (va_pl L (cel cA T r σ ρ) ++ [(q, e0)])) : ∃ (L1 : List Nat) (T1 : Nat → Nat) (r1 : Rg) (σ1 : Sg) (ρ1 : Lg), KS D cA A L0 T0 r0 σ0 h0 [q] ps X n f L1 T1 r1 σ1 ρ1 H1 ∧ q ∈ L1 ∧ T1 q = t ∧ (∀ j, σ1 q j = 0) ∧ q ∉ L0 ∧ ∀ z ∈ ps, q ≠ z.2.1 := by
  obtain ⟨hq, hA⟩ := pl_new hD
  have hL0 : q ∉ L0 := fun e => hq (h.2.2.1 q e).1
  have hps : ∀ z ∈ ps, q ≠ z.2.1 := fun z hz e => hq (e ▸ (h.2.2.2.2.2.2.2 z hz).1)
  refine ⟨_, _, _, _, _, h.grow (MO.new (t := t) hq) hL0 hps (TP.new he hq hP) (h.2.1.new hq hA) (fun a ha hx hc => ?_), List.mem_append_right _ (List.mem_singleton.mpr rfl), va_up_self _ _ _, fun j => by rw [va_up_self], hL0, hps⟩
  exfalso
  apply hx
  rcases hc with hc | hc | hc
  · rcases List.mem_append.mp ha with ha | ha
    · exact absurd ha hc
    · exact ha
  · rw [hc]; exact List.mem_singleton.mpr rfl
  · cases hc
end KC
/-- what a constructor brings about -/
def KQ (D : va_G) (cA : Nat → ClassId) (L : List Nat) (T : Nat → Nat) (r : Rg) (σ : Sg) (h0 sz : Nat) (t : State) : Prop := ∃ (L1 : List Nat) (T1 : Nat → Nat) (r1 : Rg) (σ1 : Sg) (ρ1 : Lg), TP D cA L1 T1 r1 σ1 ρ1 t.heap ∧ LA (dm L sz) L1 ∧ MO h0 L T r σ L1 T1 r1 σ1 ∧ (∀ a ∈ L1, a ∉ L → CM L1 T1 r1 σ1 a) ∧ CM L1 T1 r1 σ1 h0
section KR
variable {p : Program} {l : Launch} {e : Env} {R : Room} {s : State} {m : MethodId} {args : Array Value} {below : List Frame} {meth : Method} {c : Code} {H H0 : Heap} {locs : List Loc} {cells slots : Nat} {Q : State → Prop} {pc : Nat} {ls : Array Slot} {rest st0 : List Value} {cc : ByteArray} {A : Nat → Prop} {D : va_G} {cA : Nat → ClassId} {L0 L : List Nat} {T0 T : Nat → Nat} {r0 r : Rg} {σ0 σ : Sg} {ρ : Lg} {h0 : Nat} {xs : List Nat} {ps : List (Nat × Nat × Nat × Nat)} {X n : Nat} {f : Nat → Int32} {own C : String} {TT : u_T} {index k t : Nat}
/-- newarray -/
theorem k_na {atype : ArrayType} {ty : FieldType} {ki N' : Nat} {n' : Int32} {a0 : vp_A} (hx : p.tables.exec = Jvm.exec) (hb : c.code = cc) (hts : ∀ w ∈ wsA, w.before args s = true) (harr : Cond.arrayClass ty ∈ wsA) (hty : newarray.typeOf atype = ty) (hpr : ∀ C, ty ≠ .object C) (hK : va_K D vwCl (tyA cA) s) (hki : (tyA cA)[ki]? = some (cA ki, ty)) (h : KS D cA A L0 T0 r0 σ0 h0 [] ps X n f L T r σ ρ H) (hS : va_S A H0 H locs) (hA : ∀ q, H0.size ≤ q → A q) (he : shp cA t (fun _ => none) (fun _ => 0) (fun _ => 0) = .inl (cA ki, a0)) (hf : ∀ k, fT t k = none) (hi : ∀ j, ini t j = 0) (ha : ∀ cA : ClassId, vp_cell cA a0 = arrV cA N' (fun _ => defaultValue ty)) (hn : ¬ n' < 0) (hN : n'.toNatClampNeg = N') (hbytes : N' * componentBytes ty ≤ 536870912) (hcells : cells + 1 ≤ R.cells) (hslots : slots + N' ≤ R.slots) (hdg : decode cc pc = .ok (.newarray atype, 2))
    (kk : ∀ (q : Nat) (L1 : List Nat) (T1 : Nat → Nat) (r1 : Rg) (σ1 : Sg) (ρ1 : Lg) (H1 : Heap), KS D cA A L0 T0 r0 σ0 h0 [] ps X n f L1 T1 r1 σ1 ρ1 H1 → q ∈ L1 → T1 q = t → va_S A H0 H1 locs → W p l e R s m args below meth c H1 locs (cells + 1) (slots + N') Q (F0 m (pc + 2) ls (.ref q :: rest))) : W p l e R s m args below meth c H locs cells slots Q (F0 m pc ls (.int n' :: rest)) := by
  refine va_newa hx hb (by rw [hty]; exact hts _ harr) hty hK h.1 (h.2.1.D _) hS hA ha hn hN hbytes hcells hslots hdg (fun q cA' H1 hK1 hP1 hD1 hS1 => ?_)
  have h1 := (hK.2 ki _ hki).2
  have h2 := (hK1.2 (tyA cA).length (cA', ty) (by simp)).2
  have hcc : cA' = cA ki := by
    cases ty with
    | object C => exact absurd rfl (hpr C)
    | _ => exact Option.some.inj (h2.symm.trans h1)
  rw [hcc] at hP1 hD1
  obtain ⟨L1, T1, r1, σ1, ρ1, g1, g2, g3⟩ := h.newC he hf hi hP1 hD1
  exact kk q L1 T1 r1 σ1 ρ1 H1 g1 g2 g3 hS1
/-- anewarray -/
theorem k_nq {ki N' : Nat} {n' : Int32} (hx : p.tables.exec = Jvm.exec) (hb : c.code = cc) (hts : ∀ w ∈ wsA, w.before args s = true) (hown : s.vm.findClass own = some m.cls) (hcl : Cond.classLink own index C ∈ wsA) (hover : va_AO C s) (hK : va_K D vwCl (tyA cA) s) (hki : (tyA cA)[ki]? = some (cA ki, .object C)) (h : KS D cA A L0 T0 r0 σ0 h0 [] ps X n f L T r σ ρ H) (hS : va_S A H0 H locs) (hA : ∀ q, H0.size ≤ q → A q) (he : shp cA t (fun _ => none) (fun _ => 0) (fun _ => 0) = .inl (cA ki, N', .inr (.inr (.inr (.inr (fun _ => none)))))) (hn : ¬ n' < 0) (hN : n'.toNatClampNeg = N') (hbytes : N' * 4 ≤ 536870912) (hcells : cells + 1 ≤ R.cells) (hslots : slots + N' ≤ R.slots) (hdg : decode cc pc = .ok (.anewarray index, 3))
    (kk : ∀ (q : Nat) (L1 : List Nat) (T1 : Nat → Nat) (r1 : Rg) (σ1 : Sg) (ρ1 : Lg) (H1 : Heap), KS D cA A L0 T0 r0 σ0 h0 [q] ps X n f L1 T1 r1 σ1 ρ1 H1 → q ∈ L1 → T1 q = t → (∀ j, σ1 q j = 0) → q ∉ L0 → (∀ z ∈ ps, q ≠ z.2.1) → va_S A H0 H1 locs → W p l e R s m args below meth c H1 locs (cells + 1) (slots + N') Q (F0 m (pc + 3) ls (.ref q :: rest))) : W p l e R s m args below meth c H locs cells slots Q (F0 m pc ls (.int n' :: rest)) := by
  refine va_newq hx hb hown (hts _ hcl) hover hK h.1 (h.2.1.D _) hS hA hn hN hbytes hcells hslots hdg (fun q cA' H1 hK1 hP1 hD1 hS1 => ?_)
  obtain ⟨_, _, _, _, _, h1⟩ := (hK.2 ki _ hki).2
  obtain ⟨_, _, _, _, _, h2⟩ := (hK1.2 (tyA cA).length (cA', .object C) (by simp)).2
  have hcc : cA' = cA ki := Option.some.inj (h2.symm.trans h1)
  rw [hcc] at hP1 hD1
  obtain ⟨L1, T1, r1, σ1, ρ1, g1, g2, g3, g4, g5, g6⟩ := h.newX he hP1 hD1
  exact kk q L1 T1 r1 σ1 ρ1 H1 g1 g2 g3 g4 g5 g6 hS1
/-- new -/
theorem k_no {ci N : Nat} {fs : List Value} {ty0 : Nat → FieldType} (hx : p.tables.exec = Jvm.exec) (hb : c.code = cc) (hts : ∀ w ∈ wsA, w.before args s = true) (hin : ∀ w ∈ u_ws C TT N, w ∈ wsA) (hty : ∀ k, k < N → parseFieldDescriptor (TT k).2.2.1 = some (ty0 k)) (hown : s.vm.findClass own = some m.cls) (hcl : Cond.classLink own index C ∈ wsA) (hinst : Cond.instantiable C N ∈ wsA) (hini : Cond.initialized C ∈ wsA) (hK : va_K D vwCl (tyA cA) s) (h : KS D cA A L0 T0 r0 σ0 h0 [] ps X n f L T r σ ρ H) (hS : va_S A H0 H locs) (hA : ∀ q, H0.size ≤ q → A q) (hc : vwCl[ci]? = some (C, TT, N)) (he : shp cA t (fun _ => none) (fun _ => 0) (fun _ => 0) = .inr (ci, fs)) (hfs : ∀ j, j < N → defaultValue (ty0 j) = vp_V fs j) (hcells : cells + 1 ≤ R.cells) (hslots : slots + N ≤ R.slots) (hdg : decode cc pc = .ok (.new index, 3))
    (kk : ∀ (q : Nat) (L1 : List Nat) (T1 : Nat → Nat) (r1 : Rg) (σ1 : Sg) (ρ1 : Lg) (H1 : Heap), KS D cA A L0 T0 r0 σ0 h0 [q] ps X n f L1 T1 r1 σ1 ρ1 H1 → q ∈ L1 → T1 q = t → (∀ j, σ1 q j = 0) → q ∉ L0 → (∀ z ∈ ps, q ≠ z.2.1) → va_S A H0 H1 locs → W p l e R s m args below meth c H1 locs (cells + 1) (slots + N) Q (F0 m (pc + 3) ls (.ref q :: rest))) : W p l e R s m args below meth c H locs cells slots Q (F0 m pc ls rest) := by
  refine va_new hx hb hts hin ty0 hty hown (hts _ hcl) (hts _ hinst) (hts _ hini) hK h.1 (h.2.1.D _) hS hA hc hfs hcells hslots hdg (fun q H1 hP1 hD1 hS1 => ?_)
  obtain ⟨L1, T1, r1, σ1, ρ1, g1, g2, g3, g4, g5, g6⟩ := h.newX he hP1 hD1
  exact kk q L1 T1 r1 σ1 ρ1 H1 g1 g2 g3 g4 g5 g6 hS1
/-- the constructor of a new object -/
theorem k_ci {q : Nat} {a : Array Value} {mc ms : Nat} (hr : va_Run p l e R s m args below meth c H locs cells slots mc ms (F0 m pc ls st0) rest (va_Qv (fun _ : Unit => True) (fun _ t => KQ D cA L T r σ q H.size t) (dm L H.size) a) (dm L H.size)) (h : KS D cA A L0 T0 r0 σ0 h0 [q] ps X n f L T r σ ρ H) (hqL : q ∈ L) (hq0 : q ∉ L0) (hqp : ∀ z ∈ ps, q ≠ z.2.1) (hA : ∀ q, H0.size ≤ q → A q) (hS : va_S A H0 H locs) (ht : T q = t)
    (kk : ∀ (L1 : List Nat) (T1 : Nat → Nat) (r1 : Rg) (σ1 : Sg) (ρ1 : Lg) (H1 : Heap) (locs1 : List Loc), KS D cA A L0 T0 r0 σ0 h0 [] ps X n f L1 T1 r1 σ1 ρ1 H1 → q ∈ L1 → T1 q = t → va_S A H0 H1 locs1 → W p l e R s m args below meth c H1 locs1 (cells + mc) (slots + ms) Q (F0 m (pc + 3) ls rest)) : W p l e R s m args below meth c H locs cells slots Q (F0 m pc ls st0) := by
  have hF : ∀ z, dm L H.size z → A z := fun z hz => hz.elim (h.2.1.2 z) (fun hz => hA z (Nat.le_trans hS.1 hz))
  refine va_callv hr hS (fun z _ hz => hF z hz) hF (fun u t' H1 locs1 ht' hvm hw hB1 hz1 hk1 hS1 => ?_)
  obtain ⟨L1, T1, r1, σ1, ρ1, g1, g2, g3, g4, g5⟩ := hB1
  rw [ht'] at g1
  obtain ⟨m1, m2, _⟩ := g3 q hqL
  refine kk L1 T1 r1 σ1 ρ1 H1 locs1 (h.grow g3 hq0 hqp g1 ⟨g2.1, fun a ha => hF a (g2.2 a ha)⟩ (fun a ha _ hc => ?_)) m1 (m2.trans ht) hS1
  rcases hc with hc | hc | hc
  · exact g4 a ha hc
  · rw [hc]; exact g5
  · have : a = q := by simpa using hc
    rw [this]; exact g5
/-- putfield of a reference at h0 -/
theorem k_pr {q : Nat} {ty : FieldType} (hx : p.tables.exec = Jvm.exec) (hb : c.code = cc) (hts : ∀ w ∈ wsA, w.before args s = true) (hown : s.vm.findClass own = some m.cls) (hin : meth.name = "<init>") (hK : va_K D vwCl (tyA cA) s) (h : KS D cA A L0 T0 r0 σ0 h0 [] ps X n f L T r σ ρ H) (hS : va_S A H0 H locs) (hq : q ∈ L) (htq : T q = t) (fq : FQ X k C TT ty) (hdecl : (TT k).1 = own) (hnr : narrow ty (.ref q) = .ref q) (hfit : fits ty (.ref q) = true) (hfk : fT X k = some t) (hgap : ∀ i, n ≤ i → i < k → fT X i = none) (hps : ∀ z ∈ ps, z.1 ≠ k) (hl : Cond.fieldLink own index (TT k).1 (TT k).2.1 (TT k).2.2.1 ∈ wsA) (hdg : decode cc pc = .ok (.putfield index, 3))
    (kk : ∀ (r1 : Rg) (H1 : Heap) (locs1 : List Loc), KS D cA A L0 T0 r0 σ0 h0 [] ps X (k + 1) f L T r1 σ ρ H1 → r1 h0 k = some q → (∀ a, a ≠ h0 → r1 a = r a) → va_S A H0 H1 locs1 → W p l e R s m args below meth c H1 locs1 cells slots Q (F0 m (pc + 3) ls rest)) : W p l e R s m args below meth c H locs cells slots Q (F0 m pc ls (.ref q :: .ref h0 :: rest)) := by
  have hh := h.top
  obtain ⟨h1, h2, h3, h4, h5, h6, h7, h8⟩ := h
  obtain ⟨ci, N, Fs, ty0, f1, f2, f3, f4, f5, f6, f7, f8, f9, f10, f11⟩ := fq
  obtain ⟨q0, hq0⟩ := h1.at hh.1 hh.2 (f1 cA (r h0) (σ h0) (ρ h0))
  have he : cel cA T r σ ρ h0 = .inr (ci, Fs (r h0) (σ h0) (ρ h0)) := by unfold cel; rw [hh.2, f1]
  refine va_putF hx hb hts f4 ty0 f5 f6 hown hK h1 (h2.D _) hS q0 hq0 f2 k f3 (hts _ hl) (fun _ h => h) f11 hin hdecl f9 hnr hfit (f10 _ _ _) hdg (fun H1 locs1 hP1 _ hS1 => ?_)
  have hu : va_up (cel cA T r σ ρ) h0 (.inr (ci, (Fs (r h0) (σ h0) (ρ h0)).set k (.ref q))) = cel cA T (up2 r h0 k (some q)) σ ρ := by
    funext b
    by_cases hbb : b = h0
    · subst hbb
      have := f8 (r b) (σ b) (ρ b) (some q)
      simp only [va_up_self, cel, up2, hh.2, f1]
      rw [this]; rfl
    · simp [va_up, cel, up2, hbb]
  have hne : ∀ a, a ≠ h0 → up2 r h0 k (some q) a = r a := fun a ha => by simp [up2, va_up, ha]
  refine kk (up2 r h0 k (some q)) H1 locs1 ⟨TP.put h2 hh.1 hq0 he hu hP1, h2, fun a ha => ?_, fun a ha b1 b2 b3 => ?_, fun i hi t' hti => ?_, h6, h7, fun z hz => ?_⟩ (up2_same _ _ _ _) hne hS1
  · obtain ⟨g1, g2, g3⟩ := h3 a ha
    exact ⟨g1, g2, fun hah => ⟨(hne a hah).trans (g3 hah).1, (g3 hah).2⟩⟩
  · have hah : a ≠ h0 := fun e => b1 (e ▸ h7.1)
    obtain ⟨c1, c2⟩ := h4 a ha b1 b2 b3
    exact ⟨fun k' t' hk' => by rw [hne a hah]; exact c1 k' t' hk', c2⟩
  · by_cases hik : i = k
    · subst hik
      rw [hfk] at hti
      cases hti
      exact ⟨q, up2_same _ _ _ _, hq, htq⟩
    · rw [up2_nej _ _ hik]
      by_cases hin' : i < n
      · exact h5 i hin' t' hti
      · rw [hgap i (by omega) (by omega)] at hti; cases hti
  · obtain ⟨q1, q2, q3, q4, q5, q6⟩ := h8 z hz
    have hzh : z.2.1 ≠ h0 := fun e => q2 (e ▸ h7.1)
    exact ⟨q1, q2, q3, by rw [up2_nej _ _ (hps z hz)]; exact q4, fun i hi => by rw [hne _ hzh]; exact q5 i hi, q6⟩
/-- putfield of a row of references that is to be filled -/
theorem k_pq {q : Nat} {ty : FieldType} (hx : p.tables.exec = Jvm.exec) (hb : c.code = cc) (hts : ∀ w ∈ wsA, w.before args s = true) (hown : s.vm.findClass own = some m.cls) (hin : meth.name = "<init>") (hK : va_K D vwCl (tyA cA) s) (h : KS D cA A L0 T0 r0 σ0 h0 [q] ps X n f L T r σ ρ H) (hS : va_S A H0 H locs) (hq : q ∈ L) (htq : T q = t) (hqz : ∀ j, σ q j = 0) (hq0 : q ∉ L0) (fq : FQ X k C TT ty) (hdecl : (TT k).1 = own) (hnr : narrow ty (.ref q) = .ref q) (hfit : fits ty (.ref q) = true) (hfk : fT X k = some t) (hgap : ∀ i, n ≤ i → i < k → fT X i = none) (hps : ∀ z ∈ ps, z.1 ≠ k) (hl : Cond.fieldLink own index (TT k).1 (TT k).2.1 (TT k).2.2.1 ∈ wsA) (hdg : decode cc pc = .ok (.putfield index, 3))
    (kk : ∀ (r1 : Rg) (H1 : Heap) (locs1 : List Loc), KS D cA A L0 T0 r0 σ0 h0 [] (ps ++ [(k, q, t, 0)]) X (k + 1) f L T r1 σ ρ H1 → va_S A H0 H1 locs1 → W p l e R s m args below meth c H1 locs1 cells slots Q (F0 m (pc + 3) ls rest)) : W p l e R s m args below meth c H locs cells slots Q (F0 m pc ls (.ref q :: .ref h0 :: rest)) := by
  have hh := h.top
  obtain ⟨h1, h2, h3, h4, h5, h6, h7, h8⟩ := h
  obtain ⟨ci, N, Fs, ty0, f1, f2, f3, f4, f5, f6, f7, f8, f9, f10, f11⟩ := fq
  obtain ⟨q0, hq1⟩ := h1.at hh.1 hh.2 (f1 cA (r h0) (σ h0) (ρ h0))
  have he : cel cA T r σ ρ h0 = .inr (ci, Fs (r h0) (σ h0) (ρ h0)) := by unfold cel; rw [hh.2, f1]
  refine va_putF hx hb hts f4 ty0 f5 f6 hown hK h1 (h2.D _) hS q0 hq1 f2 k f3 (hts _ hl) (fun _ h => h) f11 hin hdecl f9 hnr hfit (f10 _ _ _) hdg (fun H1 locs1 hP1 _ hS1 => ?_)
  have hu : va_up (cel cA T r σ ρ) h0 (.inr (ci, (Fs (r h0) (σ h0) (ρ h0)).set k (.ref q))) = cel cA T (up2 r h0 k (some q)) σ ρ := by
    funext b
    by_cases hbb : b = h0
    · subst hbb
      have := f8 (r b) (σ b) (ρ b) (some q)
      simp only [va_up_self, cel, up2, hh.2, f1]
      rw [this]; rfl
    · simp [va_up, cel, up2, hbb]
  have hne : ∀ a, a ≠ h0 → up2 r h0 k (some q) a = r a := fun a ha => by simp [up2, va_up, ha]
  refine kk (up2 r h0 k (some q)) H1 locs1 ⟨TP.put h2 hh.1 hq1 he hu hP1, h2, fun a ha => ?_, fun a ha b1 b2 b3 => ?_, fun i hi t' hti => ?_, h6, h7, fun z hz => ?_⟩ hS1
  · obtain ⟨g1, g2, g3⟩ := h3 a ha
    exact ⟨g1, g2, fun hah => ⟨(hne a hah).trans (g3 hah).1, (g3 hah).2⟩⟩
  · have hah : a ≠ h0 := fun e => b1 (e ▸ h7.1)
    have haq : a ≠ q := b3 (k, q, t, 0) (List.mem_append_right _ (List.mem_singleton.mpr rfl))
    obtain ⟨c1, c2⟩ := h4 a ha b1 (fun e => haq (by simpa using e)) (fun z hz => b3 z (List.mem_append_left _ hz))
    exact ⟨fun k' t' hk' => by rw [hne a hah]; exact c1 k' t' hk', c2⟩
  · by_cases hik : i = k
    · subst hik
      rw [hfk] at hti
      cases hti
      exact ⟨q, up2_same _ _ _ _, hq, htq⟩
    · rw [up2_nej _ _ hik]
      by_cases hin' : i < n
      · exact h5 i hin' t' hti
      · rw [hgap i (by omega) (by omega)] at hti; cases hti
  · rcases List.mem_append.mp hz with hz | hz
    · obtain ⟨q1, q2, q3, q4, q5, q6⟩ := h8 z hz
      have hzh : z.2.1 ≠ h0 := fun e => q2 (e ▸ h7.1)
      exact ⟨q1, q2, q3, by rw [up2_nej _ _ (hps z hz)]; exact q4, fun i hi => by rw [hne _ hzh]; exact q5 i hi, q6⟩
    · have : z = (k, q, t, 0) := by simpa using hz
      subst this
      exact ⟨hq, hq0, htq, up2_same _ _ _ _, fun i hi => absurd hi (Nat.not_lt_zero _), hqz⟩
/-- putfield of an int at h0 -/
theorem k_pi {ty : FieldType} {x : Int32} (hx : p.tables.exec = Jvm.exec) (hb : c.code = cc) (hts : ∀ w ∈ wsA, w.before args s = true) (hown : s.vm.findClass own = some m.cls) (hK : va_K D vwCl (tyA cA) s) (h : KS D cA A L0 T0 r0 σ0 h0 [] ps X n f L T r σ ρ H) (hS : va_S A H0 H locs) (fi : FI X k C TT ty) (hnr : narrow ty (.int x) = .int x) (hfit : fits ty (.int x) = true) (hl : Cond.fieldLink own index (TT k).1 (TT k).2.1 (TT k).2.2.1 ∈ wsA) (hdg : decode cc pc = .ok (.putfield index, 3))
    (kk : ∀ (σ1 : Sg) (H1 : Heap) (locs1 : List Loc), KS D cA A L0 T0 r0 σ0 h0 [] ps X n (va_up f k x) L T r σ1 ρ H1 → va_S A H0 H1 locs1 → W p l e R s m args below meth c H1 locs1 cells slots Q (F0 m (pc + 3) ls rest)) : W p l e R s m args below meth c H locs cells slots Q (F0 m pc ls (.int x :: .ref h0 :: rest)) := by
  have hh := h.top
  obtain ⟨h1, h2, h3, h4, h5, h6, h7, h8⟩ := h
  obtain ⟨ci, N, Fs, ty0, f1, f2, f3, f4, f5, f6, f7, f8, f9, f10, f11⟩ := fi
  obtain ⟨q0, hq1⟩ := h1.at hh.1 hh.2 (f1 cA (r h0) (σ h0) (ρ h0))
  have he : cel cA T r σ ρ h0 = .inr (ci, Fs (r h0) (σ h0) (ρ h0)) := by unfold cel; rw [hh.2, f1]
  refine va_put hx hb hts f4 ty0 f5 f6 hown hK h1 (h2.D _) hS q0 hq1 f2 k f3 (hts _ hl) (fun _ h => h) f11 f9 hnr hfit (f10 _ _ _) hdg (fun H1 locs1 hP1 _ hS1 => ?_)
  have hne : ∀ a, a ≠ h0 → up2 σ h0 k x a = σ a := fun a ha => by simp [up2, va_up, ha]
  refine kk (up2 σ h0 k x) H1 locs1 ⟨TP.put h2 hh.1 hq1 he (cel_up (k := k) (x := x) hh.2 (by rw [f1, f8])) hP1, h2, fun a ha => ?_, fun a ha b1 b2 b3 => ?_, h5, fun j => ?_, h7, fun z hz => ?_⟩ hS1
  · obtain ⟨g1, g2, g3⟩ := h3 a ha
    exact ⟨g1, g2, fun hah => ⟨(g3 hah).1, (hne a hah).trans (g3 hah).2⟩⟩
  · have hah : a ≠ h0 := fun e => b1 (e ▸ h7.1)
    obtain ⟨c1, c2⟩ := h4 a ha b1 b2 b3
    exact ⟨c1, fun j => by rw [hne a hah]; exact c2 j⟩
  · by_cases hj : j = k
    · subst hj; rw [up2_same, va_up_self]
    · rw [up2_nej _ _ hj, va_up_ne _ _ hj]; exact h6 j
  · obtain ⟨q1, q2, q3, q4, q5, q6⟩ := h8 z hz
    have hzh : z.2.1 ≠ h0 := fun e => q2 (e ▸ h7.1)
    exact ⟨q1, q2, q3, q4, q5, fun j => by rw [hne _ hzh]; exact q6 j⟩
/-- getfield of a row that is being filled (the first of ps) -/
theorem k_gq {q t' i : Nat} {ty : FieldType} (hx : p.tables.exec = Jvm.exec) (hb : c.code = cc) (hts : ∀ w ∈ wsA, w.before args s = true) (hown : s.vm.findClass own = some m.cls) (hK : va_K D vwCl (tyA cA) s) (h : KS D cA A L0 T0 r0 σ0 h0 xs ((k, q, t', i) :: ps) X n f L T r σ ρ H) (fq : FQ X k C TT ty) (hl : Cond.fieldLink own index (TT k).1 (TT k).2.1 (TT k).2.2.1 ∈ wsA) (hdg : decode cc pc = .ok (.getfield index, 3))
    (kk : W p l e R s m args below meth c H locs cells slots Q (F0 m (pc + 3) ls (.ref q :: rest))) : W p l e R s m args below meth c H locs cells slots Q (F0 m pc ls (.ref h0 :: rest)) := by
  have hh := h.top
  have hp := h.2.2.2.2.2.2.2 _ List.mem_cons_self
  obtain ⟨ci, N, Fs, ty0, h1, h2, h3, h4, h5, h6, h7, -⟩ := fq
  obtain ⟨q0, hq⟩ := h.1.at hh.1 hh.2 (h1 cA (r h0) (σ h0) (ρ h0))
  exact va_get hx hb hts h4 hown hK h.1 q0 hq h2 k h3 (hts _ hl) (fun _ h => h) (v := .ref q) (by rw [h7, hp.2.2.2.1]; rfl) hdg kk
/-- aastore into it -/
theorem k_aa {q b t' tb i ki ci N' : Nat} {rr : vw_C} {fs : List Value} {i' : Int32} (hx : p.tables.exec = Jvm.exec) (hb : c.code = cc) (hK : va_K D vwCl (tyA cA) s) (h : KS D cA A L0 T0 r0 σ0 h0 [] ((k, q, t', i) :: ps) X n f L T r σ ρ H) (hS : va_S A H0 H locs) (aq : AQ t' ki N' tb) (hki : (tyA cA)[ki]? = some (cA ki, .object rr.1)) (hbm : b ∈ L) (htb : T b = tb) (hsb : shp cA tb (r b) (σ b) (ρ b) = .inr (ci, fs)) (hc : vwCl[ci]? = some rr) (hin : vp_in i' N') (hii : i'.toNatClampNeg = i) (hqp : ∀ z ∈ ps, q ≠ z.2.1) (hdg : decode cc pc = .ok (.aastore, 1))
    (kk : ∀ (r1 : Rg) (H1 : Heap) (locs1 : List Loc), KS D cA A L0 T0 r0 σ0 h0 [] ((k, q, t', i + 1) :: ps) X n f L T r1 σ ρ H1 → va_S A H0 H1 locs1 → W p l e R s m args below meth c H1 locs1 cells slots Q (F0 m (pc + 1) ls rest)) : W p l e R s m args below meth c H locs cells slots Q (F0 m pc ls (.ref b :: .int i' :: .ref q :: rest)) := by
  have hh := h.top
  obtain ⟨h1, h2, h3, h4, h5, h6, h7, h8⟩ := h
  obtain ⟨a1, a2, a3, a4, a5, a6⟩ := h8 _ List.mem_cons_self
  obtain ⟨q0, hq0⟩ := h1.at a1 a3 (aq.1 cA (r q) (σ q) (ρ q))
  obtain ⟨qk, hqk⟩ := h1.at hbm htb hsb
  have he : cel cA T r σ ρ q = .inl (cA ki, N', .inr (.inr (.inr (.inr (r q))))) := by unfold cel; rw [a3, aq.1]
  refine va_astq hx hb hK h1 (h2.D _) hS q0 ki qk ci hq0 hki hqk hc hin hdg (fun H1 locs1 hP1 _ hS1 => ?_)
  have hlt : i'.toNatClampNeg < N' := Nat.not_le.mp fun q => hin (Or.inr q)
  rw [hii] at hP1 hlt
  have hu : va_up (cel cA T r σ ρ) q (.inl (cA ki, N', .inr (.inr (.inr (.inr (va_up (r q) i (some b))))))) = cel cA T (up2 r q i (some b)) σ ρ := by
    funext z
    by_cases hz : z = q
    · subst hz; simp only [va_up_self, cel, up2, a3, aq.1]
    · simp [va_up, cel, up2, hz]
  have hne : ∀ a, a ≠ q → up2 r q i (some b) a = r a := fun a ha => by simp [up2, va_up, ha]
  have hhq : h0 ≠ q := fun e => a2 (e ▸ h7.1)
  refine kk (up2 r q i (some b)) H1 locs1 ⟨TP.put h2 a1 hq0 he hu hP1, h2, fun a ha => ?_, fun a ha b1 b2 b3 => ?_, fun j hj t2 ht2 => ?_, h6, h7, fun z hz => ?_⟩ hS1
  · obtain ⟨g1, g2, g3⟩ := h3 a ha
    have haq : a ≠ q := fun e => a2 (e ▸ ha)
    exact ⟨g1, g2, fun hah => ⟨(hne a haq).trans (g3 hah).1, (g3 hah).2⟩⟩
  · have haq : a ≠ q := b3 _ List.mem_cons_self
    obtain ⟨c1, c2⟩ := h4 a ha b1 b2 (fun z hz => by
      rcases List.mem_cons.mp hz with rfl | hz
      · exact haq
      · exact b3 z (List.mem_cons_of_mem _ hz))
    exact ⟨fun k' t2 hk' => by rw [hne a haq]; exact c1 k' t2 hk', c2⟩
  · rw [hne h0 hhq]; exact h5 j hj t2 ht2
  · rcases List.mem_cons.mp hz with rfl | hz
    · refine ⟨a1, a2, a3, by rw [hne h0 hhq]; exact a4, fun j hj => ?_, a6⟩
      by_cases hji : j = i
      · subst hji; exact ⟨b, tb, aq.2 _ hlt, up2_same _ _ _ _, hbm, htb⟩
      · rw [up2_nej _ _ hji]; exact a5 j (by simp only at hj ⊢; omega)
    · obtain ⟨q1, q2, q3, q4, q5, q6⟩ := h8 z (List.mem_cons_of_mem _ hz)
      have hzq : z.2.1 ≠ q := fun e => hqp z hz e.symm
      exact ⟨q1, q2, q3, by rw [hne h0 hhq]; exact q4, fun j hj => by rw [hne _ hzq]; exact q5 j hj, q6⟩
theorem k_ab {q b t' tb i ki ci N' : Nat} {rr : vw_C} {fs : List Value} {i' : Int32} (hx : p.tables.exec = Jvm.exec) (hb : c.code = cc) (hK : va_K D vwCl (tyA cA) s) (h : KS D cA A L0 T0 r0 σ0 h0 [] ((k, q, t', i) :: ps) X n f L T r σ ρ H) (hS : va_S A H0 H locs) (ar : AR t' ki N') (hft : fT t' i = some tb) (hki : (tyA cA)[ki]? = some (cA ki, .object rr.1)) (hbm : b ∈ L) (htb : T b = tb) (hsb : shp cA tb (r b) (σ b) (ρ b) = .inr (ci, fs)) (hc : vwCl[ci]? = some rr) (hin : vp_in i' N') (hii : i'.toNatClampNeg = i) (hqp : ∀ z ∈ ps, q ≠ z.2.1) (hdg : decode cc pc = .ok (.aastore, 1))
    (kk : ∀ (r1 : Rg) (H1 : Heap) (locs1 : List Loc), KS D cA A L0 T0 r0 σ0 h0 [] ((k, q, t', i + 1) :: ps) X n f L T r1 σ ρ H1 → va_S A H0 H1 locs1 → W p l e R s m args below meth c H1 locs1 cells slots Q (F0 m (pc + 1) ls rest)) : W p l e R s m args below meth c H locs cells slots Q (F0 m pc ls (.ref b :: .int i' :: .ref q :: rest)) := by
  have hh := h.top
  obtain ⟨h1, h2, h3, h4, h5, h6, h7, h8⟩ := h
  obtain ⟨a1, a2, a3, a4, a5, a6⟩ := h8 _ List.mem_cons_self
  obtain ⟨q0, hq0⟩ := h1.at a1 a3 (ar cA (r q) (σ q) (ρ q))
  obtain ⟨qk, hqk⟩ := h1.at hbm htb hsb
  have he : cel cA T r σ ρ q = .inl (cA ki, N', .inr (.inr (.inr (.inr (r q))))) := by unfold cel; rw [a3, ar]
  refine va_astq hx hb hK h1 (h2.D _) hS q0 ki qk ci hq0 hki hqk hc hin hdg (fun H1 locs1 hP1 _ hS1 => ?_)
  have hlt : i'.toNatClampNeg < N' := Nat.not_le.mp fun q => hin (Or.inr q)
  rw [hii] at hP1 hlt
  have hu : va_up (cel cA T r σ ρ) q (.inl (cA ki, N', .inr (.inr (.inr (.inr (va_up (r q) i (some b))))))) = cel cA T (up2 r q i (some b)) σ ρ := by
    funext z
    by_cases hz : z = q
    · subst hz; simp only [va_up_self, cel, up2, a3]; exact (ar _ _ _ _).symm
    · simp [va_up, cel, up2, hz]
  have hne : ∀ a, a ≠ q → up2 r q i (some b) a = r a := fun a ha => by simp [up2, va_up, ha]
  have hhq : h0 ≠ q := fun e => a2 (e ▸ h7.1)
  refine kk (up2 r q i (some b)) H1 locs1 ⟨TP.put h2 a1 hq0 he hu hP1, h2, fun a ha => ?_, fun a ha b1 b2 b3 => ?_, fun j hj t2 ht2 => ?_, h6, h7, fun z hz => ?_⟩ hS1
  · obtain ⟨g1, g2, g3⟩ := h3 a ha
    have haq : a ≠ q := fun e => a2 (e ▸ ha)
    exact ⟨g1, g2, fun hah => ⟨(hne a haq).trans (g3 hah).1, (g3 hah).2⟩⟩
  · have haq : a ≠ q := b3 _ List.mem_cons_self
    obtain ⟨c1, c2⟩ := h4 a ha b1 b2 (fun z hz => by
      rcases List.mem_cons.mp hz with rfl | hz
      · exact haq
      · exact b3 z (List.mem_cons_of_mem _ hz))
    exact ⟨fun k' t2 hk' => by rw [hne a haq]; exact c1 k' t2 hk', c2⟩
  · rw [hne h0 hhq]; exact h5 j hj t2 ht2
  · rcases List.mem_cons.mp hz with rfl | hz
    · refine ⟨a1, a2, a3, by rw [hne h0 hhq]; exact a4, fun j hj => ?_, a6⟩
      by_cases hji : j = i
      · subst hji; exact ⟨b, tb, hft, up2_same _ _ _ _, hbm, htb⟩
      · rw [up2_nej _ _ hji]; exact a5 j (by simp only at hj ⊢; omega)
    · obtain ⟨q1, q2, q3, q4, q5, q6⟩ := h8 z (List.mem_cons_of_mem _ hz)
      have hzq : z.2.1 ≠ q := fun e => hqp z hz e.symm
      exact ⟨q1, q2, q3, by rw [hne h0 hhq]; exact q4, fun j hj => by rw [hne _ hzq]; exact q5 j hj, q6⟩
end KR
section KE
variable {D : va_G} {cA : Nat → ClassId} {A : Nat → Prop} {L0 L : List Nat} {T0 T : Nat → Nat} {r0 r : Rg} {σ0 σ : Sg} {ρ : Lg} {h0 : Nat} {ps : List (Nat × Nat × Nat × Nat)} {X n : Nat} {f : Nat → Int32} {H : Heap}
/-- the first of ps is full -/
theorem KS.full {k q t i : Nat} (h : KS D cA A L0 T0 r0 σ0 h0 [] ((k, q, t, i) :: ps) X n f L T r σ ρ H) (hN : ∀ j t', fT t j = some t' → j < i) (hi : ∀ j, ini t j = 0) : KS D cA A L0 T0 r0 σ0 h0 [] ps X n f L T r σ ρ H := by
  obtain ⟨h1, h2, h3, h4, h5, h6, h7, h8⟩ := h
  refine ⟨h1, h2, h3, fun a ha b1 b2 b3 => ?_, h5, h6, h7, fun z hz => h8 z (List.mem_cons_of_mem _ hz)⟩
  by_cases haq : a = q
  · subst haq
    obtain ⟨a1, a2, a3, a4, a5, a6⟩ := h8 _ List.mem_cons_self
    simp only at a3 a5 a6
    refine ⟨fun j t' hj => ?_, fun j => ?_⟩
    · rw [a3] at hj
      obtain ⟨b, t2, g0, g1, g2, g3⟩ := a5 j (hN j t' hj)
      rw [g0] at hj
      cases hj
      exact ⟨b, g1, g2, g3⟩
    · rw [a3, hi]; exact a6 j
  · exact h4 a ha b1 b2 (fun z hz => by
      rcases List.mem_cons.mp hz with rfl | hz
      · exact haq
      · exact b3 z hz)
/-- the end of a constructor -/
theorem KS.end {sz : Nat} {t : State} (h : KS D cA (dm L0 sz) L0 T0 r0 σ0 h0 [] [] X n f L T r σ ρ H) (hn : ∀ k t, fT X k = some t → k < n) (hf : ∀ j, f j = ini X j) (ht : t.heap = H) : KQ D cA L0 T0 r0 σ0 h0 sz t := by
  have hh := h.top
  obtain ⟨h1, h2, h3, h4, h5, h6, h7, h8⟩ := h
  refine ⟨L, T, r, σ, ρ, by rw [ht]; exact h1, h2, h3, fun a ha b1 => h4 a ha b1 List.not_mem_nil (fun z hz => by cases hz), fun k t hk => ?_, fun j => ?_⟩
  · rw [hh.2] at hk; exact h5 k (hn k t hk) t hk
  · rw [hh.2]; exact (h6 j).trans (hf j)
theorem KS.begin {sz : Nat} (hP : TP D cA L0 T0 r0 σ0 ρ H) (hL : LA (dm L0 sz) L0) (h0m : h0 ∈ L0) (ht : T0 h0 = X) (hz : ∀ j, σ0 h0 j = 0) : KS D cA (dm L0 sz) L0 T0 r0 σ0 h0 [] [] X 0 (fun _ => 0) L0 T0 r0 σ0 ρ H :=
  ⟨hP, hL, fun _ ha => ⟨ha, rfl, fun _ => ⟨rfl, rfl⟩⟩, fun _ ha b1 => absurd ha b1, fun _ hk => absurd hk (Nat.not_lt_zero _), hz, ⟨h0m, ht⟩, fun _ hz => by cases hz⟩
end KE
