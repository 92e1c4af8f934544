/-! ===== calls over typed pools ===== -/
theorem cV {R : Room} {s : State} {args : Array Value} {own C : String} {idx : Nat} {y : MethodName} {bytes : ByteArray} {maxL : Nat} {ret : Option FieldType} {rm : Room} {mc ms n : Nat} (hts : ∀ w ∈ wsA, w.before args s = true) (mv : MV C y bytes maxL ret n) (hl : Cond.methodLink own idx y ∈ wsA) (hrc : rm.cells = mc) (hrs : rm.slots = ms) (hR : rm.frames + 1 ≤ R.frames ∧ 8 + (maxL + 11) + rm.locals ≤ R.locals) : CallW R s args own C idx y bytes maxL ret (.code y bytes maxL ret :: wsA) rm mc ms n := cwV n hts (gAV hl mv.1 mv.2.1 mv.2.2.1 mv.2.2.2.1) rfl hrc hrs mv.2.2.2.2 hR
theorem cS {R : Room} {s : State} {args : Array Value} {own : String} {idx : Nat} {y : MethodName} {bytes : ByteArray} {maxL : Nat} {ret : Option FieldType} {rm : Room} {mc ms n : Nat} (hts : ∀ w ∈ wsA, w.before args s = true) (mv : MS own y bytes maxL ret n) (hl : Cond.methodLink own idx y ∈ wsA) (hrc : rm.cells = mc) (hrs : rm.slots = ms) (hR : rm.frames + 1 ≤ R.frames ∧ 8 + (maxL + 11) + rm.locals ≤ R.locals) : CallB R s args own idx y bytes maxL ret (.code y bytes maxL ret :: wsA) rm mc ms n ∧ (Cond.static y).before args s = true := cwS n hts (gAS hl mv.1 mv.2.1 mv.2.2.1) rfl hrc hrs mv.2.2.2 hR
theorem cI {R : Room} {s : State} {args : Array Value} {own : String} {idx : Nat} {y : MethodName} {bytes : ByteArray} {maxL : Nat} {rm : Room} {mc ms n : Nat} (hts : ∀ w ∈ wsA, w.before args s = true) (mi : MI y bytes maxL n) (hl : Cond.methodLink own idx y ∈ wsA) (hrc : rm.cells = mc) (hrs : rm.slots = ms) (hR : rm.frames + 1 ≤ R.frames ∧ 8 + (maxL + 11) + rm.locals ≤ R.locals) : CallB R s args own idx y bytes maxL none (.code y bytes maxL none :: wsA) rm mc ms n ∧ y.name = "<init>" ∧ (Cond.instanceMethod y).before args s = true := cwI n hts (gA mi.2.2.1) rfl hrc hrs (hts _ mi.2.1) (hts _ hl) (hts _ mi.1) mi.2.2.2.1 mi.2.2.2.2 hR
theorem cIN {R : Room} {s : State} {args : Array Value} {own host : String} {idx : Nat} {y : MethodName} {bytes : ByteArray} {maxL : Nat} {rm : Room} {mc ms n : Nat} (hts : ∀ w ∈ wsA, w.before args s = true) (mi : MI y bytes maxL n) (hN : NW s) (hl : (own, idx, y, host) ∈ nwL) (hrc : rm.cells = mc) (hrs : rm.slots = ms) (hR : rm.frames + 1 ≤ R.frames ∧ 8 + (maxL + 11) + rm.locals ≤ R.locals) : va_CN R s args own idx y host bytes maxL none (.code y bytes maxL none :: wsA) rm mc ms n ∧ y.name = "<init>" ∧ (Cond.instanceMethod y).before args s = true := ⟨va_cnB n hts (gA mi.2.2.1) rfl hrc hrs (hN.1 (own, idx, y, host) hl) (hts _ mi.2.1) mi.2.2.2.2 hR, mi.2.2.2.1, hts _ mi.1⟩
section CL
variable {p : Program} {l : Launch} {e : Env} {R : Room} {s : State} {m : MethodId} {args : Array Value} {below : List Frame} {meth : Method} {c : Code} {H H0 : Heap} {locs : List Loc} {cells slots : Nat} {Q : State → Prop} {pc : Nat} {ls : Array Slot} {rest st0 : List Value} {a : Array Value} {A : Nat → Prop} {D : va_G} {cA : Nat → ClassId} {L : List Nat} {T : Nat → Nat} {r : Rg} {σ0 σ : Sg} {ρ : Lg} {rng : Nat → Nat → Int × Int} {ms ms' : List (Nat × Nat)}
theorem t_ci {po : Int32 → Sg → Prop} (hr : va_Run p l e R s m args below meth c H locs cells slots 0 0 (F0 m pc ls st0) rest (QI D cA L T r rng ms' σ H.size po a) (dm L H.size)) (hL : LA A L) (hA : ∀ q, H0.size ≤ q → A q) (hB : TS D cA L T r rng ms σ0 σ ρ H) (hS : va_S A H0 H locs) (hsub : ∀ q ∈ ms', q ∈ ms)
    (kk : ∀ (x : Int32) (σ1 : Sg) (ρ1 : Lg) (H1 : Heap) (locs1 : List Loc), TS D cA L T r rng ms σ0 σ1 ρ1 H1 → FR ms' T σ σ1 → po x σ1 → va_S A H0 H1 locs1 → W p l e R s m args below meth c H1 locs1 cells slots Q (F0 m (pc + 3) ls (.int x :: rest))) : W p l e R s m args below meth c H locs cells slots Q (F0 m pc ls st0) := by
  have hF : ∀ q, dm L H.size q → A q := fun q h => h.elim (hL.2 q) (fun h => hA q (Nat.le_trans hS.1 h))
  refine va_calli hr hS (fun q _ h => hF q h) hF (fun x u t H1 locs1 ht hvm hw hB1 hz1 hk1 hS1 => ?_)
  have hP1 : TP D cA L T r u.1 u.2 H1 := by rw [← ht]; exact hB1
  exact kk x u.1 u.2 H1 locs1 ⟨hP1, hw.1, hB.2.2.tr hw.2.1 hsub⟩ hw.2.1 hw.2.2 hS1
theorem t_cl {po : Int64 → Sg → Prop} (hr : va_Run p l e R s m args below meth c H locs cells slots 0 0 (F0 m pc ls st0) rest (QL D cA L T r rng ms' σ H.size po a) (dm L H.size)) (hL : LA A L) (hA : ∀ q, H0.size ≤ q → A q) (hB : TS D cA L T r rng ms σ0 σ ρ H) (hS : va_S A H0 H locs) (hsub : ∀ q ∈ ms', q ∈ ms)
    (kk : ∀ (x : Int64) (σ1 : Sg) (ρ1 : Lg) (H1 : Heap) (locs1 : List Loc), TS D cA L T r rng ms σ0 σ1 ρ1 H1 → FR ms' T σ σ1 → po x σ1 → va_S A H0 H1 locs1 → W p l e R s m args below meth c H1 locs1 cells slots Q (F0 m (pc + 3) ls (.long x :: rest))) : W p l e R s m args below meth c H locs cells slots Q (F0 m pc ls st0) := by
  have hF : ∀ q, dm L H.size q → A q := fun q h => h.elim (hL.2 q) (fun h => hA q (Nat.le_trans hS.1 h))
  refine va_calll hr hS (fun q _ h => hF q h) hF (fun x u t H1 locs1 ht hvm hw hB1 hz1 hk1 hS1 => ?_)
  have hP1 : TP D cA L T r u.1 u.2 H1 := by rw [← ht]; exact hB1
  exact kk x u.1 u.2 H1 locs1 ⟨hP1, hw.1, hB.2.2.tr hw.2.1 hsub⟩ hw.2.1 hw.2.2 hS1
theorem t_cv {po : Sg → Prop} (hr : va_Run p l e R s m args below meth c H locs cells slots 0 0 (F0 m pc ls st0) rest (QV D cA L T r rng ms' σ H.size po a) (dm L H.size)) (hL : LA A L) (hA : ∀ q, H0.size ≤ q → A q) (hB : TS D cA L T r rng ms σ0 σ ρ H) (hS : va_S A H0 H locs) (hsub : ∀ q ∈ ms', q ∈ ms)
    (kk : ∀ (σ1 : Sg) (ρ1 : Lg) (H1 : Heap) (locs1 : List Loc), TS D cA L T r rng ms σ0 σ1 ρ1 H1 → FR ms' T σ σ1 → po σ1 → va_S A H0 H1 locs1 → W p l e R s m args below meth c H1 locs1 cells slots Q (F0 m (pc + 3) ls rest)) : W p l e R s m args below meth c H locs cells slots Q (F0 m pc ls st0) := by
  have hF : ∀ q, dm L H.size q → A q := fun q h => h.elim (hL.2 q) (fun h => hA q (Nat.le_trans hS.1 h))
  refine va_callv hr hS (fun q _ h => hF q h) hF (fun u t H1 locs1 ht hvm hw hB1 hz1 hk1 hS1 => ?_)
  have hP1 : TP D cA L T r u.1 u.2 H1 := by rw [← ht]; exact hB1
  exact kk u.1 u.2 H1 locs1 ⟨hP1, hw.1, hB.2.2.tr hw.2.1 hsub⟩ hw.2.1 hw.2.2 hS1
theorem WT.cpy {σ : Sg} {a b t t' n sp dp : Nat} {lo hi : Int} (h : WT L rng T σ) (ha : a ∈ L) (hta : T a = t) (htb : T b = t') (hr1 : ∀ j, (lo ≤ (rng t j).1 ∧ (rng t j).2 ≤ hi)) (hr2 : ∀ j, rng t' j = (lo, hi)) : WT L rng T (va_up σ b (va_cpy (σ a) (σ b) sp dp n)) := by
  intro d hd j
  by_cases hdb : d = b
  · subst hdb
    rw [va_up_self]
    unfold va_cpy
    split
    · have := h a ha (sp + (j - dp)); have h1 := hr1 (sp + (j - dp)); rw [hta] at this; rw [htb, hr2]; simp only; omega
    · exact h d hd j
  · rw [va_up_ne _ _ hdb]; exact h d hd j
theorem FR.cpy {σ0 σ : Sg} {b t' : Nat} {v : Nat → Int32} (h : FR ms T σ0 σ) (htb : T b = t') (hm : (t', 1000) ∈ ms) : FR ms T σ0 (va_up σ b v) := by
  intro d j hd
  by_cases hdb : d = b
  · subst hdb; rw [htb] at hd; exact absurd (Or.inr hm) hd
  · rw [va_up_ne _ _ hdb]; exact h d j hd
/-- System.arraycopy of ints -/
theorem t_cp {cc : ByteArray} {own : String} {index b t t' n0 n1 : Nat} {a : Nat} {lo hi : Int} {sp dp n : Int32} (hx : p.tables.exec = Jvm.exec) (hb : c.code = cc) (hml : c.maxLocals = ls.size) (hts : ∀ w ∈ wsA, w.before args s = true) (hown : s.vm.findClass own = some m.cls) (hlink : Cond.methodLink own index arraycopyName ∈ wsA) (hw3 : Cond.native arraycopyName ∈ wsA ∧ Cond.static arraycopyName ∈ wsA ∧ Cond.initialized "java/lang/System" ∈ wsA) (hK : va_K D vwCl (tyA cA) s) (hL : LA A L) (hB : TS D cA L T r rng ms σ0 σ ρ H) (hS : va_S A H0 H locs) (ha : a ∈ L) (hta : T a = t) (ai : AI t 1 n0) (hbm : b ∈ L) (htb : T b = t') (bi : AI t' 1 n1) (hr1 : ∀ j, (lo ≤ (rng t j).1 ∧ (rng t j).2 ≤ hi)) (hr2 : ∀ j, rng t' j = (lo, hi)) (hm : (t', 1000) ∈ ms) (h1 : ¬ sp < 0) (h2 : ¬ dp < 0) (h3 : ¬ n < 0) (h4 : sp.toNatClampNeg + n.toNatClampNeg ≤ n0) (h5 : dp.toNatClampNeg + n.toNatClampNeg ≤ n1)
    (hframes : 1 ≤ R.frames) (hlocals : (rest.map fun v => v.category).sum + (nativeFrameWords "java/lang/System" "arraycopy" 5 + 11) ≤ R.locals) (hdg : decode cc pc = .ok (.invokestatic index, 3))
    (kk : ∀ (H1 : Heap) (locs1 : List Loc) (σ1 : Sg), σ1 = va_up σ b (va_cpy (σ a) (σ b) sp.toNatClampNeg dp.toNatClampNeg n.toNatClampNeg) → TS D cA L T r rng ms σ0 σ1 ρ H1 → va_S A H0 H1 locs1 → W p l e R s m args below meth c H1 locs1 cells slots Q (F0 m (pc + 3) ls rest)) : W p l e R s m args below meth c H locs cells slots Q (F0 m pc ls (.int n :: .int dp :: .ref b :: .int sp :: .ref a :: rest)) := by
  obtain ⟨q0, hq⟩ := hB.1.at ha hta (ai cA (r a) (σ a) (ρ a))
  obtain ⟨q1, hq1⟩ := hB.1.at hbm htb (bi cA (r b) (σ b) (ρ b))
  have he : cel cA T r σ ρ b = .inl (cA 1, n1, .inl (σ b)) := by unfold cel; rw [htb, bi]
  refine va_copyi hx hb hml hown (hts _ hlink) (hts _ hw3.1) (hts _ hw3.2.1) (hts _ hw3.2.2) hK hB.1 (hL.D _) hS q0 q1 1 1 hq hq1 rfl rfl rfl h1 h2 h3 h4 h5 (fun _ _ => rfl) hframes hlocals hdg (fun H1 locs1 hP1 _ hS1 => ?_)
  refine kk H1 locs1 _ rfl ⟨?_, hB.2.1.cpy ha hta htb hr1 hr2, hB.2.2.cpy htb hm⟩ hS1
  exact TP.put hL hbm hq1 he (cel_upA htb (by rw [bi])) hP1
theorem tp_i {v w : Int32} (h : v = w) (k : W p l e R s m args below meth c H locs cells slots Q (F0 m pc ls (.int w :: rest))) : W p l e R s m args below meth c H locs cells slots Q (F0 m pc ls (.int v :: rest)) := by rw [h]; exact k
theorem tp_l {v w : Int64} (h : v = w) (k : W p l e R s m args below meth c H locs cells slots Q (F0 m pc ls (.long w :: rest))) : W p l e R s m args below meth c H locs cells slots Q (F0 m pc ls (.long v :: rest)) := by rw [h]; exact k
end CL
theorem i_lt {x a : Int32} {n : Int} (ha : a.toInt = n) (h : x < a) : x.toInt < n := ha ▸ Int32.lt_iff_toInt_lt.mp h
theorem i_le {x a : Int32} {n : Int} (ha : a.toInt = n) (h : x ≤ a) : x.toInt ≤ n := ha ▸ Int32.le_iff_toInt_le.mp h
theorem i_ge {x a : Int32} {n : Int} (ha : a.toInt = n) (h : a ≤ x) : n ≤ x.toInt := ha ▸ Int32.le_iff_toInt_le.mp h
theorem i_gt {x a : Int32} {n : Int} (ha : a.toInt = n) (h : a < x) : n < x.toInt := ha ▸ Int32.lt_iff_toInt_lt.mp h
theorem i_nlt {x a : Int32} {n : Int} (ha : a.toInt = n) (h : ¬ x < a) : n ≤ x.toInt := by
  have := mt Int32.lt_iff_toInt_lt.mpr h
  omega
theorem i_nle {x a : Int32} {n : Int} (ha : a.toInt = n) (h : ¬ x ≤ a) : n < x.toInt := by
  have := mt Int32.le_iff_toInt_le.mpr h
  omega
theorem i_nge {x a : Int32} {n : Int} (ha : a.toInt = n) (h : ¬ a ≤ x) : x.toInt < n := by
  have := mt Int32.le_iff_toInt_le.mpr h
  omega
theorem i_ngt {x a : Int32} {n : Int} (ha : a.toInt = n) (h : ¬ a < x) : x.toInt ≤ n := by
  have := mt Int32.lt_iff_toInt_lt.mpr h
  omega
theorem i_eq {x a : Int32} {n : Int} (ha : a.toInt = n) (h : x = a) : x.toInt = n := by rw [h]; exact ha
theorem i_ne {x a : Int32} {n : Int} (ha : a.toInt = n) (h : ¬ x = a) : x.toInt ≠ n := fun h2 => h (Int32.toInt_inj.mp (h2.trans ha.symm))
theorem i_is {x a : Int32} {n : Int} (ha : a.toInt = n) (h : x.toInt = n) : x = a := Int32.toInt_inj.mp (h.trans ha.symm)
/-- compares of two unknown ints -/
theorem j_lt {x y : Int32} (h : x < y) : x.toInt < y.toInt := Int32.lt_iff_toInt_lt.mp h
theorem j_le {x y : Int32} (h : x ≤ y) : x.toInt ≤ y.toInt := Int32.le_iff_toInt_le.mp h
theorem j_nlt {x y : Int32} (h : ¬ x < y) : y.toInt ≤ x.toInt := by
  have := mt Int32.lt_iff_toInt_lt.mpr h
  omega
theorem j_nle {x y : Int32} (h : ¬ x ≤ y) : y.toInt < x.toInt := by
  have := mt Int32.le_iff_toInt_le.mpr h
  omega
theorem j_eq {x y : Int32} (h : x = y) : x.toInt = y.toInt := by rw [h]
theorem j_ne {x y : Int32} (h : ¬ x = y) : x.toInt ≠ y.toInt := fun h2 => h (Int32.toInt_inj.mp h2)
theorem i_in {x : Int32} {n : Nat} (h0 : 0 ≤ x.toInt) (h1 : x.toInt < n) : vp_in x n := by
  intro h
  rcases h with h | h
  · have := Int32.lt_iff_toInt_lt.mp h
    have h3 : (0 : Int32).toInt = 0 := by decide
    omega
  · have h4 : x.toNatClampNeg = x.toInt.toNat := rfl
    omega
theorem i_lo (x : Int32) : -2147483648 ≤ x.toInt := Int32.le_toInt x
theorem i_hi (x : Int32) : x.toInt ≤ 2147483647 := Int32.toInt_le x
/-- sums that don't go round -/
theorem a_add {x y z : Int32} (h : z = x + y) (h1 : -2147483648 ≤ x.toInt + y.toInt) (h2 : x.toInt + y.toInt ≤ 2147483647) : z.toInt = x.toInt + y.toInt := by
  rw [h, Int32.toInt_add]
  exact Int.bmod_eq_of_le (by omega) (by omega)
theorem a_sub {x y z : Int32} (h : z = x - y) (h1 : -2147483648 ≤ x.toInt - y.toInt) (h2 : x.toInt - y.toInt ≤ 2147483647) : z.toInt = x.toInt - y.toInt := by
  rw [h, Int32.toInt_sub]
  exact Int.bmod_eq_of_le (by omega) (by omega)
theorem a_mul {x y z : Int32} (h : z = x * y) (h1 : -2147483648 ≤ x.toInt * y.toInt) (h2 : x.toInt * y.toInt ≤ 2147483647) : z.toInt = x.toInt * y.toInt := by
  rw [h, Int32.toInt_mul]
  exact Int.bmod_eq_of_le (by omega) (by omega)
theorem b_add {x y z : Int32} {m n : Int} (hx : x.toInt = m) (hy : y.toInt = n) (h : z = x + y) (h1 : -2147483648 ≤ m + n) (h2 : m + n ≤ 2147483647) : z.toInt = m + n := by
  subst hx hy; exact a_add h h1 h2
theorem b_sub {x y z : Int32} {m n : Int} (hx : x.toInt = m) (hy : y.toInt = n) (h : z = x - y) (h1 : -2147483648 ≤ m - n) (h2 : m - n ≤ 2147483647) : z.toInt = m - n := by
  subst hx hy; exact a_sub h h1 h2
theorem b_mul {x y z : Int32} {m n : Int} (hx : x.toInt = m) (hy : y.toInt = n) (h : z = x * y) (h1 : -2147483648 ≤ m * n) (h2 : m * n ≤ 2147483647) : z.toInt = m * n := by
  subst hx hy; exact a_mul h h1 h2
theorem l_lt {x y : Int64} {m n : Int} (hx : x.toInt = m) (hy : y.toInt = n) (h : x < y) : m < n := by subst hx hy; exact Int64.lt_iff_toInt_lt.mp h
theorem l_le {x y : Int64} {m n : Int} (hx : x.toInt = m) (hy : y.toInt = n) (h : x ≤ y) : m ≤ n := by subst hx hy; exact Int64.le_iff_toInt_le.mp h
theorem l_nlt {x y : Int64} {m n : Int} (hx : x.toInt = m) (hy : y.toInt = n) (h : ¬ x < y) : n ≤ m := by
  subst hx hy; have := mt Int64.lt_iff_toInt_lt.mpr h; omega
theorem l_nle {x y : Int64} {m n : Int} (hx : x.toInt = m) (hy : y.toInt = n) (h : ¬ x ≤ y) : n < m := by
  subst hx hy; have := mt Int64.le_iff_toInt_le.mpr h; omega
theorem l_i (x : Int32) : x.toInt64.toInt = x.toInt := Int32.toInt_toInt64 x
theorem z_shr (k : Int32) : (0 : Int32) >>> k = 0 := by
  apply Int32.toBitVec_inj.mp
  simp
theorem FR.at {ms : List (Nat × Nat)} {T : Nat → Nat} {σ σ1 : Sg} {b j t : Nat} (h : FR ms T σ σ1) (ht : T b = t) (hn : ¬ ((t, j) ∈ ms ∨ (t, 1000) ∈ ms)) : σ1 b j = σ b j := h b j (by rw [ht]; exact hn)
theorem tg_ne {T : Nat → Nat} {a b t u : Nat} (ha : T a = t) (hb : T b = u) (h : t ≠ u) : a ≠ b := fun e => h (ha.symm.trans ((congrArg T e).trans hb))
section LP
variable {p : Program} {l : Launch} {e : Env} {R : Room} {s : State} {m : MethodId} {args : Array Value} {below : List Frame} {meth : Method} {c : Code} {H : Heap} {locs : List Loc} {cells slots : Nat} {Q : State → Prop} {pc : Nat} {ls : Array Slot} {stk : List Value}
theorem w_loop {α : Type} (I : α → Heap → List Loc → Array Slot → Prop) (μ : α → Nat) (step : ∀ (x : α) (H : Heap) (locs : List Loc) (ls : Array Slot), I x H locs ls → (∀ (y : α) (H1 : Heap) (locs1 : List Loc) (ls1 : Array Slot), I y H1 locs1 ls1 → μ y < μ x → W p l e R s m args below meth c H1 locs1 cells slots Q (F0 m pc ls1 stk)) → W p l e R s m args below meth c H locs cells slots Q (F0 m pc ls stk)) (x : α) (h : I x H locs ls) : W p l e R s m args below meth c H locs cells slots Q (F0 m pc ls stk) := by
  have key : ∀ (n : Nat) (x : α) (H : Heap) (locs : List Loc) (ls : Array Slot), μ x < n → I x H locs ls → W p l e R s m args below meth c H locs cells slots Q (F0 m pc ls stk) := by
    intro n
    induction n with
    | zero => intro x H locs ls h; exact absurd h (Nat.not_lt_zero _)
    | succ n ih =>
      intro x H locs ls hn hI
      exact step x H locs ls hI (fun y H1 locs1 ls1 hy hlt => ih y H1 locs1 ls1 (by omega) hy)
  exact key (μ x + 1) x H locs ls (Nat.lt_succ_self _) h
end LP
def ini (t j : Nat) : Int32 := if (t = 10 ∨ t = 13 ∨ t = 14 ∨ t = 15 ∨ t = 16) ∧ j = 7 then -1 else if t = 12 ∧ j = 21 then -1 else 0
theorem d_ne {x : Int32} (h : x.toInt ≠ 0) : ¬ x = 0 := fun e => h (by rw [e]; decide)
def MZ (y : MethodName) (bytes : ByteArray) (maxL : Nat) (ret : Option FieldType) (n : Nat) : Prop := Cond.static y ∈ wsA ∧ Cond.initialized y.cls ∈ wsA ∧ Cond.code y bytes maxL ret ∈ wsA ∧ (y.cls ≠ "java/lang/invoke/MethodHandle" ∧ y.cls ≠ "java/lang/invoke/VarHandle" ∧ (parseMethodDescriptor y.desc).map (fun d => d.parameters.length) = some n)
theorem cO {R : Room} {s : State} {args : Array Value} {own : String} {idx : Nat} {y : MethodName} {bytes : ByteArray} {maxL : Nat} {ret : Option FieldType} {rm : Room} {mc ms n : Nat} (hts : ∀ w ∈ wsA, w.before args s = true) (mv : MZ y bytes maxL ret n) (hl : Cond.methodLink own idx y ∈ wsA) (hrc : rm.cells = mc) (hrs : rm.slots = ms) (hR : rm.frames + 1 ≤ R.frames ∧ 8 + (maxL + 11) + rm.locals ≤ R.locals) : CallB R s args own idx y bytes maxL ret (.code y bytes maxL ret :: wsA) rm mc ms n ∧ (Cond.static y).before args s = true := ⟨callB_of n hts (gA mv.2.2.1) rfl hrc hrs (hts _ mv.2.1) (hts _ hl) mv.2.2.2 hR, hts _ mv.1⟩
theorem n_bool {x : Int32} (h1 : 0 ≤ x.toInt) (h2 : x.toInt ≤ 1) : narrow .boolean (.int x) = .int x := by
  rcases (show x.toInt = 0 ∨ x.toInt = 1 by omega) with h | h
  · rw [i_is (a := 0) (by decide) h]; rfl
  · rw [i_is (a := 1) (by decide) h]; rfl
theorem f_bool {x : Int32} (h1 : 0 ≤ x.toInt) (h2 : x.toInt ≤ 1) : fits .boolean (.int x) = true := by
  rcases (show x.toInt = 0 ∨ x.toInt = 1 by omega) with h | h
  · rw [i_is (a := 0) (by decide) h]; rfl
  · rw [i_is (a := 1) (by decide) h]; rfl
theorem a_nn {x : Int32} (h : 0 ≤ x.toInt) : ¬ x < 0 := fun q => by
  have := Int32.lt_iff_toInt_lt.mp q
  have h3 : (0 : Int32).toInt = 0 := by decide
  omega
theorem a_cp {a x : Int32} {n : Nat} (h0 : a.toNatClampNeg = 0) (h : x.toInt ≤ n) : a.toNatClampNeg + x.toNatClampNeg ≤ n := by
  have h4 : x.toNatClampNeg = x.toInt.toNat := rfl
  omega
theorem m_max {x y z : Int32} {m n : Int} (hx : x.toInt = m) (hy : y.toInt = n) (h : z = if x < y then y else x) : m ≤ z.toInt ∧ n ≤ z.toInt ∧ (z.toInt = m ∨ z.toInt = n) := by
  subst hx hy h
  by_cases c : x < y
  · rw [if_pos c]; have := j_lt c; exact ⟨by omega, by omega, by omega⟩
  · rw [if_neg c]; have := j_nlt c; exact ⟨by omega, by omega, by omega⟩
theorem m_min {x y z : Int32} {m n : Int} (hx : x.toInt = m) (hy : y.toInt = n) (h : z = if y < x then y else x) : z.toInt ≤ m ∧ z.toInt ≤ n ∧ (z.toInt = m ∨ z.toInt = n) := by
  subst hx hy h
  by_cases c : y < x
  · rw [if_pos c]; have := j_lt c; exact ⟨by omega, by omega, by omega⟩
  · rw [if_neg c]; have := j_nlt c; exact ⟨by omega, by omega, by omega⟩
theorem and_m {x m z : Int32} (k : Nat) {n : Int} (hm : m.toBitVec.toNat = 2 ^ k - 1) (hk : k ≤ 30) (hn : ((2 ^ k : Nat) : Int) - 1 = n) (h : z = x &&& m) : 0 ≤ z.toInt ∧ z.toInt ≤ n := by
  obtain ⟨j, hj, he⟩ := pk_andE x k hm
  have h2 : 2 ^ k ≤ 2 ^ 30 := Nat.pow_le_pow_right (by decide) hk
  rw [h, he, nI_toInt (by omega)]
  omega
theorem FR.nil {T : Nat → Nat} {σ σ1 : Sg} (h : FR [] T σ σ1) : σ = σ1 := by
  funext b j
  exact (h b j (fun q => by rcases q with q | q <;> cases q)).symm
theorem FR.row {ms : List (Nat × Nat)} {T : Nat → Nat} {σ σ1 : Sg} {b t : Nat} (h : FR ms T σ σ1) (ht : T b = t) (hn : ∀ j : Nat, ¬ ((t, j) ∈ ms ∨ (t, 1000) ∈ ms)) : σ1 b = σ b := by
  funext j
  exact h b j (by rw [ht]; exact hn j)
theorem up2_row {α : Type} (f : Nat → Nat → α) {a j b : Nat} (x : α) (h : b ≠ a) : up2 f a j x b = f b := by
  funext k
  exact up2_nea f x h
abbrev QQ (D : va_G) (cA : Nat → ClassId) (L : List Nat) (T : Nat → Nat) (r : Rg) (rng : Nat → Nat → Int × Int) (ms : List (Nat × Nat)) (σ : Sg) (sz : Nat) (po : Option Nat → Sg → Prop) : Array Value → State → Outcome → State → Prop := va_Qq (fun (x : Option Nat) (u : Sg × Lg) => WT L rng T u.1 ∧ FR ms T σ u.1 ∧ po x u.1) (fun u t => TP D cA L T r u.1 u.2 t.heap) (dm L sz)
theorem t_cq {p : Program} {l : Launch} {e : Env} {R : Room} {s : State} {m : MethodId} {args : Array Value} {below : List Frame} {meth : Method} {c : Code} {H H0 : Heap} {locs : List Loc} {cells slots : Nat} {Q : State → Prop} {pc : Nat} {ls : Array Slot} {rest st0 : List Value} {a : Array Value} {A : Nat → Prop} {D : va_G} {cA : Nat → ClassId} {L : List Nat} {T : Nat → Nat} {r : Rg} {σ0 σ : Sg} {ρ : Lg} {rng : Nat → Nat → Int × Int} {ms ms' : List (Nat × Nat)} {po : Option Nat → Sg → Prop} (hr : va_Run p l e R s m args below meth c H locs cells slots 0 0 (F0 m pc ls st0) rest (QQ D cA L T r rng ms' σ H.size po a) (dm L H.size)) (hL : LA A L) (hA : ∀ q, H0.size ≤ q → A q) (hB : TS D cA L T r rng ms σ0 σ ρ H) (hS : va_S A H0 H locs) (hsub : ∀ q ∈ ms', q ∈ ms)
    (kk : ∀ (x : Option Nat) (σ1 : Sg) (ρ1 : Lg) (H1 : Heap) (locs1 : List Loc), TS D cA L T r rng ms σ0 σ1 ρ1 H1 → FR ms' T σ σ1 → po x σ1 → va_S A H0 H1 locs1 → W p l e R s m args below meth c H1 locs1 cells slots Q (F0 m (pc + 3) ls (va_rf x :: rest))) : W p l e R s m args below meth c H locs cells slots Q (F0 m pc ls st0) := by
  have hF : ∀ q, dm L H.size q → A q := fun q h => h.elim (hL.2 q) (fun h => hA q (Nat.le_trans hS.1 h))
  refine va_callq hr hS (fun q _ h => hF q h) hF (fun x u t H1 locs1 ht hvm hw hB1 hz1 hk1 hS1 => ?_)
  have hP1 : TP D cA L T r u.1 u.2 H1 := by rw [← ht]; exact hB1
  exact kk x u.1 u.2 H1 locs1 ⟨hP1, hw.1, hB.2.2.tr hw.2.1 hsub⟩ hw.2.1 hw.2.2 hS1
def sb (j : Nat) : Int × Int := if j = 1 then (0, 5) else if j = 2 then (0, 8) else if j = 3 then (0, 4) else if 10 ≤ j ∧ j < 18 then (0, 1) else if 18 ≤ j ∧ j < 58 then (0, 99) else if j = 58 ∨ j = 67 ∨ j = 76 ∨ j = 85 then (0, 8) else if 109 ≤ j ∧ j < 125 then (0, 4) else if 125 ≤ j ∧ j < 170 then (0, 9) else if 170 ≤ j ∧ j < 200 then (if j % 3 = 2 then (0, 60) else if j % 3 = 0 then (0, 7) else (-2147483648, 2147483647)) else if j = 200 then (0, 10) else (-2147483648, 2147483647)
def ry (t j : Nat) : Int × Int := match t with
  | 3 => match j with | 6 => (0, 1) | 8 => (0, 5) | 9 => (0, 8) | 10 => (0, 4) | _ => (-2147483648, 2147483647)
  | 5 => match j with | 1 => (0, 20) | 2 => (0, 19) | _ => (-2147483648, 2147483647)
  | 7 => match j with | 4 => (0, 12) | 5 => (0, 401) | _ => (-2147483648, 2147483647)
  | 9 => match j with | 4 => (0, 400) | 5 => (0, 401) | _ => (-2147483648, 2147483647)
  | 10 => match j with | 6 => (0, 10) | _ => (-2147483648, 2147483647)
  | 11 => match j with | 10 => (0, 6) | _ => (-2147483648, 2147483647)
  | 12 => match j with | 1 => (0, 400) | 2 => (0, 6) | 8 => (0, 400) | 11 => (0, 6) | 12 => (0, 60) | 16 => (0, 400) | 18 => (0, 64) | 21 => ((-1), 5) | 25 => (0, 20) | _ => (-2147483648, 2147483647)
  | 13 => match j with | 6 => (0, 10) | _ => (-2147483648, 2147483647)
  | 14 => match j with | 6 => (0, 10) | _ => (-2147483648, 2147483647)
  | 15 => match j with | 6 => (0, 10) | _ => (-2147483648, 2147483647)
  | 16 => match j with | 6 => (0, 10) | _ => (-2147483648, 2147483647)
  | 17 => match j with | 6 => (0, 1) | 8 => (0, 5) | 9 => (0, 8) | 10 => (0, 4) | _ => (-2147483648, 2147483647)
  | 18 => match j with | 6 => (0, 1) | 8 => (0, 5) | 9 => (0, 8) | 10 => (0, 4) | _ => (-2147483648, 2147483647)
  | 24 => ((-2147483648), 1000)
  | 36 => (0, 4)
  | 37 => (0, 4)
  | 41 => (0, 200000)
  | 42 => (0, 401)
  | 43 => (0, 401)
  | 44 => (0, 401)
  | 45 => (0, 8)
  | 50 => (0, 99)
  | 51 => (0, 255)
  | 52 => (0, 255)
  | 53 => (0, 400)
  | 54 => ((-1), 99999)
  | 55 => (0, 9)
  | 56 => (0, 60)
  | 57 => (0, 7)
  | 58 => (0, 4)
  | 61 => ((-128), 127)
  | 63 => (0, 400)
  | 64 => ((-1), 400)
  | 65 => (0, 12)
  | 66 => sb j
  | 70 => sb j
  | 71 => (0, 1)
  | 72 => sb (j % 94)
  | 75 => (0, 9)
  | 77 => (0, 9)
  | 79 => sb j
  | 80 => (0, 1)
  | 82 => sb (j % 201)
  | 83 => ((-1), 5)
  | 85 => (0, 1)
  | 86 => (0, 9)
  | 87 => (0, 60)
  | 88 => (0, 7)
  | 89 => (0, 4)
  | 93 => (0, 4)
  | 94 => (0, 4)
  | 98 => (0, 4)
  | 99 => (0, 4)
  | 107 => (0, 8)
  | 112 => (0, 99)
  | 113 => (0, 8)
  | 118 => (0, 99)
  | 119 => (0, 8)
  | 124 => (0, 99)
  | 125 => (0, 8)
  | 130 => (0, 99)
  | 131 => (0, 8)
  | 136 => (0, 99)
  | 137 => (0, 8)
  | 142 => (0, 99)
  | 143 => (0, 8)
  | 148 => (0, 99)
  | _ => (-2147483648, 2147483647)

