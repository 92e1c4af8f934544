/-! ===== what holds between two calls ===== -/
def LI (σ : Sg) (qx bw w0 w1 w2 w3 qm bg bk bc bx bi bf : Nat) : Prop :=
  WR (σ bg) (σ bk) (σ bc) (σ qm 2).toInt.toNat ∧ (σ qm 21).toInt < (σ qm 2).toInt ∧ (∀ j : Nat, j < 4 → ¬ (σ bi j).toInt = 0 → (σ bf j).toInt < (σ qm 2).toInt) ∧ σ bw 8 = σ qm 22 ∧
  (σ w0 8 = σ bx 0 ∧ σ w1 8 = σ bx 1 ∧ σ w2 8 = σ bx 2 ∧ σ w3 8 = σ bx 3) ∧ (bt0 (σ qx 11) 0 = (σ bi 0).toInt ∧ bt0 (σ qx 11) 1 = (σ bi 1).toInt ∧ bt0 (σ qx 11) 2 = (σ bi 2).toInt ∧ bt0 (σ qx 11) 3 = (σ bi 3).toInt)
def LG (T : Nat → Nat) (qx bw w0 w1 w2 w3 qm bg bk bc bx bi bf : Nat) : Prop := T qx = 11 ∧ T bw = 10 ∧ T w0 = 13 ∧ T w1 = 14 ∧ T w2 = 15 ∧ T w3 = 16 ∧ T qm = 12 ∧ T bg = 62 ∧ T bk = 64 ∧ T bc = 65 ∧ T bx = 84 ∧ T bi = 85 ∧ T bf = 83
theorem LI.eq {σ σ1 : Sg} {qx bw w0 w1 w2 w3 qm bg bk bc bx bi bf : Nat} (h : LI σ qx bw w0 w1 w2 w3 qm bg bk bc bx bi bf) (e1 : σ1 bg = σ bg) (e2 : σ1 bk = σ bk) (e3 : σ1 bc = σ bc) (e4 : σ1 qm 2 = σ qm 2) (e5 : σ1 qm 21 = σ qm 21) (e6 : σ1 bf = σ bf) (e7 : σ1 bw 8 = σ bw 8) (e8 : σ1 qm 22 = σ qm 22) (f0 : σ1 w0 8 = σ w0 8) (f1 : σ1 w1 8 = σ w1 8) (f2 : σ1 w2 8 = σ w2 8) (f3 : σ1 w3 8 = σ w3 8) (e9 : σ1 bx = σ bx) (g1 : σ1 bi = σ bi) (g2 : σ1 qx 11 = σ qx 11) : LI σ1 qx bw w0 w1 w2 w3 qm bg bk bc bx bi bf := by
  unfold LI at h ⊢
  rw [e1, e2, e3, e4, e5, e6, e7, e8, f0, f1, f2, f3, e9, g1, g2]; exact h
def lk (q : Nat × Nat) : Bool := q.1 == 62 || q.1 == 64 || q.1 == 65 || q.1 == 83 || q.1 == 84 || q.1 == 85 || (q.1 == 12 && (q.2 == 2 || q.2 == 21 || q.2 == 22 || q.2 == 1000)) || ((q.1 == 10 || q.1 == 13 || q.1 == 14 || q.1 == 15 || q.1 == 16) && (q.2 == 8 || q.2 == 1000)) || (q.1 == 11 && (q.2 == 11 || q.2 == 1000))
theorem lk_no {ms : List (Nat × Nat)} {t j : Nat} (hm : ms.all (fun q => !lk q) = true) (h1 : lk (t, j) = true) (h2 : lk (t, 1000) = true) : ¬ md ms t j := by
  intro h
  rcases h with h | h
  · have z := List.all_eq_true.mp hm _ h; rw [h1] at z; exact absurd z (by decide)
  · have z := List.all_eq_true.mp hm _ h; rw [h2] at z; exact absurd z (by decide)
theorem LI.fr {T : Nat → Nat} {σ σ1 : Sg} {ms : List (Nat × Nat)} {qx bw w0 w1 w2 w3 qm bg bk bc bx bi bf : Nat} (hg : LG T qx bw w0 w1 w2 w3 qm bg bk bc bx bi bf) (h : LI σ qx bw w0 w1 w2 w3 qm bg bk bc bx bi bf) (hF : FR ms T σ σ1) (hm : ms.all (fun q => !lk q) = true) : LI σ1 qx bw w0 w1 w2 w3 qm bg bk bc bx bi bf := by
  obtain ⟨t1, t2, t3, t4, t5, t6, t7, t8, t9, ta, tb, tc, td⟩ := hg
  exact h.eq (funext fun j => hF bg j (by rw [t8]; exact lk_no hm rfl rfl)) (funext fun j => hF bk j (by rw [t9]; exact lk_no hm rfl rfl)) (funext fun j => hF bc j (by rw [ta]; exact lk_no hm rfl rfl)) (hF qm 2 (by rw [t7]; exact lk_no hm rfl rfl)) (hF qm 21 (by rw [t7]; exact lk_no hm rfl rfl)) (funext fun j => hF bf j (by rw [td]; exact lk_no hm rfl rfl)) (hF bw 8 (by rw [t2]; exact lk_no hm rfl rfl)) (hF qm 22 (by rw [t7]; exact lk_no hm rfl rfl)) (hF w0 8 (by rw [t3]; exact lk_no hm rfl rfl)) (hF w1 8 (by rw [t4]; exact lk_no hm rfl rfl)) (hF w2 8 (by rw [t5]; exact lk_no hm rfl rfl)) (hF w3 8 (by rw [t6]; exact lk_no hm rfl rfl)) (funext fun j => hF bx j (by rw [tb]; exact lk_no hm rfl rfl)) (funext fun j => hF bi j (by rw [tc]; exact lk_no hm rfl rfl)) (hF qx 11 (by rw [t1]; exact lk_no hm rfl rfl))
/-- the rules' part alone may have changed -/
theorem LI.rl {σ σ1 : Sg} {qx bw w0 w1 w2 w3 qm bg bk bc bx bi bf : Nat} (h : LI σ qx bw w0 w1 w2 w3 qm bg bk bc bx bi bf) (hw : WR (σ1 bg) (σ1 bk) (σ1 bc) (σ1 qm 2).toInt.toNat) (hf : (σ1 qm 21).toInt < (σ1 qm 2).toInt) (hr : (σ qm 2).toInt ≤ (σ1 qm 2).toInt) (e6 : σ1 bf = σ bf) (e7 : σ1 bw 8 = σ bw 8) (e8 : σ1 qm 22 = σ qm 22) (f0 : σ1 w0 8 = σ w0 8) (f1 : σ1 w1 8 = σ w1 8) (f2 : σ1 w2 8 = σ w2 8) (f3 : σ1 w3 8 = σ w3 8) (e9 : σ1 bx = σ bx) (g1 : σ1 bi = σ bi) (g2 : σ1 qx 11 = σ qx 11) : LI σ1 qx bw w0 w1 w2 w3 qm bg bk bc bx bi bf := by
  obtain ⟨a1, a2, a3, a4, a5, a6⟩ := h
  refine ⟨hw, hf, fun j hj => ?_, ?_, ?_, ?_⟩
  · rw [e6, g1]; intro z; have := a3 j hj z; omega
  · rw [e7, e8]; exact a4
  · rw [f0, f1, f2, f3, e9]; exact a5
  · rw [g1, g2]; exact a6
/-! bits of which images are made -/
theorem bt_or (m c j : Int32) (d : Int) (h : bt0 c j = d) : (d = 0 → bt0 (m ||| c) j = bt0 m j) ∧ (d = 1 → bt0 (m ||| c) j = 1) := by
  have e : ((m ||| c) >>> (j &&& 31)) &&& 1 = ((m >>> (j &&& 31)) &&& 1) ||| ((c >>> (j &&& 31)) &&& 1) := by
    apply Int32.toBitVec_inj.mp
    simp only [Int32.toBitVec_and, Int32.toBitVec_or, Int32.toBitVec_shiftRight, BitVec.sshiftRight_eq', BitVec.sshiftRight_or_distrib]
    ext i hi
    simp only [BitVec.getElem_and, BitVec.getElem_or]
    cases (BitVec.sshiftRight m.toBitVec (((j.toBitVec &&& (31 : Int32).toBitVec).smod 32).toNat))[i] <;> cases (BitVec.sshiftRight c.toBitVec (((j.toBitVec &&& (31 : Int32).toBitVec).smod 32).toNat))[i] <;> cases ((1 : Int32).toBitVec)[i] <;> rfl
  unfold bt0 at h ⊢
  constructor
  · intro hd
    have z : (c >>> (j &&& 31)) &&& 1 = 0 := i_is (by decide) (h.trans hd)
    rw [e, z, Int32.or_zero]
  · intro hd
    have z : (c >>> (j &&& 31)) &&& 1 = 1 := i_is (by decide) (h.trans hd)
    rw [e, z]
    obtain ⟨l1, u1⟩ := and_m 1 (m := 1) (n := 1) (x := m >>> (j &&& 31)) (by decide) (by decide) (by decide) rfl
    rcases (show ((m >>> (j &&& 31)) &&& 1).toInt = 0 ∨ ((m >>> (j &&& 31)) &&& 1).toInt = 1 by omega) with q | q
    · rw [show (m >>> (j &&& 31)) &&& 1 = 0 from i_is (by decide) q]; decide
    · rw [show (m >>> (j &&& 31)) &&& 1 = 1 from i_is (by decide) q]; decide
theorem ini_v (t j : Nat) : (ini t j).toInt = 0 ∨ ((ini t j).toInt = -1 ∧ (((t = 10 ∨ t = 13 ∨ t = 14 ∨ t = 15 ∨ t = 16) ∧ j = 7) ∨ (t = 12 ∧ j = 21))) := by
  unfold ini
  by_cases h1 : (t = 10 ∨ t = 13 ∨ t = 14 ∨ t = 15 ∨ t = 16) ∧ j = 7
  · rw [if_pos h1]; exact Or.inr ⟨by decide, Or.inl h1⟩
  · rw [if_neg h1]
    by_cases h2 : t = 12 ∧ j = 21
    · rw [if_pos h2]; exact Or.inr ⟨by decide, Or.inr h2⟩
    · rw [if_neg h2]; exact Or.inl (by decide)
theorem ry_z (t j : Nat) : (ry t j).1 ≤ 0 ∧ 0 ≤ (ry t j).2 := by
  unfold ry
  split <;> (try split) <;> first | decide | exact sb_z _
theorem ry_ini (t j : Nat) : (ry t j).1 ≤ (ini t j).toInt ∧ (ini t j).toInt ≤ (ry t j).2 := by
  rcases ini_v t j with h | ⟨h, h2⟩
  · rw [h]; exact ry_z t j
  · rw [h]
    rcases h2 with ⟨h3, rfl⟩ | ⟨rfl, rfl⟩
    · rcases h3 with rfl | rfl | rfl | rfl | rfl <;> decide
    · decide
