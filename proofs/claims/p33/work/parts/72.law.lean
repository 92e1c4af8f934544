def ZZ (L : List Nat) (T : Nat → Nat) (σ : Sg) : Prop := ∀ a ∈ L, ∀ j : Nat, σ a j = ini (T a) j
/-! ===== the law's own makings ===== -/
def LSS (D : va_G) (cA : Nat → ClassId) (A : Nat → Prop) (xs : List Nat) (L : List Nat) (T : Nat → Nat) (r : Rg) (σ : Sg) (ρ : Lg) (H : Heap) : Prop := TP D cA L T r σ ρ H ∧ LA A L ∧ ∀ a ∈ L, a ∉ xs → CM L T r σ a
theorem arrK {args : Array Value} {s : State} {ty : FieldType} (hpr : ∀ C, ty ≠ .object C) (h : (Cond.arrayClass ty).before args s = true) : ∃ cA : ClassId, ArrOfT s cA ty ∧ va_RA s cA ty := by
  obtain ⟨cA, kA, comp, h1, h2, h3⟩ := Cond.arrayClass_spec h
  refine ⟨cA, fun n z => ⟨fun k h => (by cases h), kA, h2, comp, h3⟩, ?_⟩
  cases ty with
  | object C => exact absurd rfl (hpr C)
  | _ => exact h1
theorem arrO {args : Array Value} {s : State} {C : String} (h : (Cond.arrayOver (.object C)).before args s = true) : ∃ cA : ClassId, ArrOfT s cA (.object C) ∧ va_RA s cA (.object C) := by
  obtain ⟨comp, cA, kA, hcomp, hidx, hkA, hkind, hname⟩ := Cond.arrayOver_spec h
  exact ⟨cA, fun N z => ⟨(fun k h => by cases h), kA, hkA, comp, hkind⟩, kA, comp, hkA, hkind, hcomp, hname⟩
section LW
variable {p : Program} {l : Launch} {e : Env} {R : Room} {s : State} {m : MethodId} {args : Array Value} {below : List Frame} {meth : Method} {c : Code} {H H0 : Heap} {locs : List Loc} {cells slots : Nat} {Q : State → Prop} {pc : Nat} {ls : Array Slot} {rest st0 : List Value} {cc : ByteArray} {A : Nat → Prop} {D : va_G} {cA : Nat → ClassId} {L : List Nat} {T : Nat → Nat} {r : Rg} {σ : Sg} {ρ : Lg} {own C : String} {TT : u_T} {index t : Nat}
theorem l_no {ci N : Nat} {fs : List Value} {ty0 : Nat → FieldType} (hx : p.tables.exec = Jvm.exec) (hb : c.code = cc) (hts : ∀ w ∈ wsA, w.before args s = true) (hin : ∀ w ∈ u_ws C TT N, w ∈ wsA) (hty : ∀ k, k < N → parseFieldDescriptor (TT k).2.2.1 = some (ty0 k)) (hown : s.vm.findClass own = some m.cls) (hcl : Cond.classLink own index C ∈ wsA) (hinst : Cond.instantiable C N ∈ wsA) (hini : Cond.initialized C ∈ wsA) (hK : va_K D vwCl (tyA cA) s) (h : LSS D cA A [] L T r σ ρ H) (hS : va_S A H0 H locs) (hA : ∀ q, H0.size ≤ q → A q) (hc : vwCl[ci]? = some (C, TT, N)) (he : shp cA t (fun _ => none) (fun _ => 0) (fun _ => 0) = .inr (ci, fs)) (hfs : ∀ j, j < N → defaultValue (ty0 j) = vp_V fs j) (hcells : cells + 1 ≤ R.cells) (hslots : slots + N ≤ R.slots) (hdg : decode cc pc = .ok (.new index, 3))
    (kk : ∀ (q : Nat) (L1 : List Nat) (T1 : Nat → Nat) (r1 : Rg) (σ1 : Sg) (ρ1 : Lg) (H1 : Heap), LSS D cA A [q] L1 T1 r1 σ1 ρ1 H1 → q ∈ L1 → T1 q = t → (∀ j, σ1 q j = 0) → MO q L T r σ L1 T1 r1 σ1 → va_S A H0 H1 locs → W p l e R s m args below meth c H1 locs (cells + 1) (slots + N) Q (F0 m (pc + 3) ls (.ref q :: rest))) : W p l e R s m args below meth c H locs cells slots Q (F0 m pc ls rest) := by
  refine va_new hx hb hts hin ty0 hty hown (hts _ hcl) (hts _ hinst) (hts _ hini) hK h.1 (h.2.1.D _) hS hA hc hfs hcells hslots hdg (fun q H1 hP1 hD1 hS1 => ?_)
  obtain ⟨hq, hAq⟩ := pl_new hD1
  have hm := MO.new (T := T) (r := r) (σ := σ) (t := t) hq
  refine kk q _ _ _ _ _ H1 ⟨TP.new he hq hP1, h.2.1.new hq hAq, fun a ha hx => ?_⟩ (List.mem_append_right _ (List.mem_singleton.mpr rfl)) (va_up_self _ _ _) (fun j => by rw [va_up_self]) hm hS1
  rcases List.mem_append.mp ha with ha | ha
  · exact (h.2.2 a ha List.not_mem_nil).mo ha (fun e : a = q => hq (e ▸ ha)) hm
  · exact absurd ha hx
theorem l_ci {q : Nat} {a : Array Value} {mc ms : Nat} (hr : va_Run p l e R s m args below meth c H locs cells slots mc ms (F0 m pc ls st0) rest (va_Qv (fun _ : Unit => True) (fun _ t => KQ D cA L T r σ q H.size t) (dm L H.size) a) (dm L H.size)) (h : LSS D cA A [q] L T r σ ρ H) (hqL : q ∈ L) (hA : ∀ q, H0.size ≤ q → A q) (hS : va_S A H0 H locs) (ht : T q = t)
    (kk : ∀ (L1 : List Nat) (T1 : Nat → Nat) (r1 : Rg) (σ1 : Sg) (ρ1 : Lg) (H1 : Heap) (locs1 : List Loc), LSS D cA A [] L1 T1 r1 σ1 ρ1 H1 → q ∈ L1 → T1 q = t → MO q L T r σ L1 T1 r1 σ1 → va_S A H0 H1 locs1 → W p l e R s m args below meth c H1 locs1 (cells + mc) (slots + ms) Q (F0 m (pc + 3) ls rest)) : W p l e R s m args below meth c H locs cells slots Q (F0 m pc ls st0) := by
  have hF : ∀ z, dm L H.size z → A z := fun z hz => hz.elim (h.2.1.2 z) (fun hz => hA z (Nat.le_trans hS.1 hz))
  refine va_callv hr hS (fun z _ hz => hF z hz) hF (fun u t' H1 locs1 ht' hvm hw hB1 hz1 hk1 hS1 => ?_)
  obtain ⟨L1, T1, r1, σ1, ρ1, g1, g2, g3, g4, g5⟩ := hB1
  rw [ht'] at g1
  obtain ⟨m1, m2, _⟩ := g3 q hqL
  refine kk L1 T1 r1 σ1 ρ1 H1 locs1 ⟨g1, ⟨g2.1, fun a ha => hF a (g2.2 a ha)⟩, fun a ha _ => ?_⟩ m1 (m2.trans ht) g3 hS1
  by_cases haL : a ∈ L
  · by_cases haq : a = q
    · rw [haq]; exact g5
    · exact (h.2.2 a haL (fun e => haq (by simpa using e))).mo haL haq g3
  · exact g4 a ha haL
theorem LSS.G (h : LSS D cA A [] L T r σ ρ H) : GR L T r := fun a ha k t hk => (h.2.2 a ha List.not_mem_nil).1 k t hk
theorem LSS.Z (h : LSS D cA A [] L T r σ ρ H) : ZZ L T σ := fun a ha j => (h.2.2 a ha List.not_mem_nil).2 j
end LW
def SWL (adK adV : Nat → Nat) (L : List Nat) (s : State) : Prop := SW adK adV (fun q : Nat => s.heap.size ≤ q) s s.heap ∧ ∀ a ∈ L, s.heap.size ≤ a
theorem SWL.to {adK adV : Nat → Nat} {L : List Nat} {s : State} {H : Heap} {locs : List Loc} (h : SWL adK adV L s) (hS : va_S (fun q : Nat => s.heap.size ≤ q) s.heap H locs) : SW adK adV (dm L H.size) s H := by
  have hn : ∀ q, dm L H.size q → (fun q : Nat => s.heap.size ≤ q) q := fun q z => z.elim (h.2 q) (fun z => Nat.le_trans hS.1 z)
  exact ⟨(h.1.1.kept hS.2.1).narrow hn, (h.1.2.1.kept hS.2.1).narrow hn, (h.1.2.2.1.kept hS.2.1).narrow hn, h.1.2.2.2⟩
def tmS (i : Nat) : Term := if i = 0 then Term.string "HillBends$Tape" 59 else Term.string "HillBends$Tape" 71
theorem sm_ex : ∀ i : Nat, i < 2 → Cond.exactly (tmS i) "java/lang/String" ∈ flatC (Jvm.Cond.and given_1 narrow_1) := by decide +kernel
theorem sm_co : ∀ i : Nat, i < 2 → Cond.eq (.field (tmS i) "java/lang/String" "coder" "B") (.int 0) ∈ flatC (Jvm.Cond.and given_1 narrow_1) := by decide +kernel
theorem sm_ar : ∀ i : Nat, i < 2 → Cond.arrayOf (.field (tmS i) "java/lang/String" "value" "[B") .byte ∈ flatC (Jvm.Cond.and given_1 narrow_1) := by decide +kernel
theorem sm_le : ∀ i : Nat, i < 2 → Cond.eq (.length (.field (tmS i) "java/lang/String" "value" "[B")) (.int (Int32.ofNat (lenS.getD i 0))) ∈ flatC (Jvm.Cond.and given_1 narrow_1) := by decide +kernel
theorem sm_el : ∀ i : Nat, i < 2 → ∀ j : Nat, j < lenS.getD i 0 → Cond.eq (.elem (.field (tmS i) "java/lang/String" "value" "[B") (.int (Int32.ofNat j))) (.int ((bytS.getD i []).getD j 0)) ∈ flatC (Jvm.Cond.and given_1 narrow_1) := by decide +kernel
theorem sm_ne0 : Cond.not (Cond.eq (tmS 0) (tmS 1)) ∈ flatC (Jvm.Cond.and given_1 narrow_1) ∨ Cond.not (Cond.eq (tmS 1) (tmS 0)) ∈ flatC (Jvm.Cond.and given_1 narrow_1) := by decide +kernel
theorem sm_ne (i j : Nat) (hi : i < 2) (hj : j < 2) (h : i ≠ j) : Cond.not (Cond.eq (tmS i) (tmS j)) ∈ flatC (Jvm.Cond.and given_1 narrow_1) ∨ Cond.not (Cond.eq (tmS j) (tmS i)) ∈ flatC (Jvm.Cond.and given_1 narrow_1) := by
  rcases (show (i = 0 ∧ j = 1) ∨ (i = 1 ∧ j = 0) by omega) with ⟨rfl, rfl⟩ | ⟨rfl, rfl⟩
  · exact sm_ne0
  · exact sm_ne0.symm
theorem sm_cs : Cond.eq (.static "java/lang/String" "COMPACT_STRINGS" "Z") (.int 1) ∈ flatC (Jvm.Cond.and given_1 narrow_1) := by decide +kernel
theorem sm_sf : Cond.isRef (.static "jdk/internal/util/Preconditions" "SIOOBE_FORMATTER" "Ljava/util/function/BiFunction;") ∈ flatC (Jvm.Cond.and given_1 narrow_1) := by decide +kernel
