/-! the code of a rule of the reference: how deep the stack is along it -/
theorem nb_c {f : Nat → Int32} {a b : Int32} (h : a.toInt = b.toInt) : (f a.toNatClampNeg).toInt = (f b.toNatClampNeg).toInt := by rw [Int32.toInt_inj.mp h]
def stp (s : Int32) (d : Nat) : Option Nat :=
  if s &&& 15 = 0 then (if d < 60 then some (d + 1) else none)
  else if s &&& 15 = 1 then (if d < 60 ∧ 0 ≤ (s >>> 4).toInt ∧ (s >>> 4).toInt ≤ 9 then some (d + 1) else none)
  else if s &&& 15 = 11 then (if 1 ≤ d then some d else none)
  else (if 2 ≤ d then some (d - 1) else none)
def dpt (f : Nat → Int32) (a : Nat) : Nat → Option Nat
  | 0 => some 0
  | n + 1 => (dpt f a n).bind (stp (f (a + n)))
theorem dpt_fr {f g : Nat → Int32} {a : Nat} : ∀ {n : Nat}, (∀ j : Nat, a ≤ j → j < a + n → g j = f j) → dpt g a n = dpt f a n
  | 0, _ => rfl
  | n + 1, h => by
    have e1 := dpt_fr (n := n) (fun j h1 h2 => h j h1 (by omega))
    show (dpt g a n).bind (stp (g (a + n))) = (dpt f a n).bind (stp (f (a + n)))
    rw [e1, h (a + n) (by omega) (by omega)]
def ee (l : Nat → Int32) (tx : Int32) : Nat := 400 * tx.toInt.toNat + (l tx.toNatClampNeg).toInt.toNat
def SD (g l : Nat → Int32) (tx : Int32) (a D : Nat) : Prop := a ≤ ee l tx ∧ dpt g a (ee l tx - a) = some D
def EX (g l g' l' : Nat → Int32) (tx : Int32) : Prop := ee l tx ≤ ee l' tx ∧ ∀ j : Nat, j < ee l tx → g' j = g j
theorem EX.rf {g l : Nat → Int32} {tx : Int32} : EX g l g l tx := ⟨Nat.le_refl _, fun _ _ => rfl⟩
theorem EX.tr {g l g1 l1 g2 l2 : Nat → Int32} {tx : Int32} (h : EX g l g1 l1 tx) (h' : EX g1 l1 g2 l2 tx) : EX g l g2 l2 tx :=
  ⟨Nat.le_trans h.1 h'.1, fun j hj => (h'.2 j (Nat.lt_of_lt_of_le hj h.1)).trans (h.2 j hj)⟩
/-- a sign has come behind the code -/
def PU (σ σ1 : Sg) (bg bl : Nat) (tx v : Int32) : Prop := (σ1 bl tx.toNatClampNeg).toInt = (σ bl tx.toNatClampNeg).toInt + 1 ∧ ∀ j : Nat, σ1 bg j = if j = ee (σ bl) tx then v else σ bg j
theorem PU.e1 {σ σ1 : Sg} {bg bl : Nat} {tx v : Int32} (h : PU σ σ1 bg bl tx v) (h0 : 0 ≤ (σ bl tx.toNatClampNeg).toInt) : ee (σ1 bl) tx = ee (σ bl) tx + 1 := by
  unfold ee; have := h.1; omega
theorem PU.ex {σ σ1 : Sg} {bg bl : Nat} {tx v : Int32} (h : PU σ σ1 bg bl tx v) (h0 : 0 ≤ (σ bl tx.toNatClampNeg).toInt) : EX (σ bg) (σ bl) (σ1 bg) (σ1 bl) tx :=
  ⟨by rw [h.e1 h0]; omega, fun j hj => by rw [h.2 j, if_neg (by omega)]⟩
theorem PU.sd {σ σ1 : Sg} {bg bl : Nat} {tx v : Int32} {a D D' : Nat} (h : PU σ σ1 bg bl tx v) (h0 : 0 ≤ (σ bl tx.toNatClampNeg).toInt) (hs : SD (σ bg) (σ bl) tx a D) (hv : stp v D = some D') : SD (σ1 bg) (σ1 bl) tx a D' := by
  have e := h.e1 h0
  have ha := hs.1
  refine ⟨by omega, ?_⟩
  rw [e, show ee (σ bl) tx + 1 - a = (ee (σ bl) tx - a) + 1 by omega]
  show (dpt (σ1 bg) a (ee (σ bl) tx - a)).bind (stp (σ1 bg (a + (ee (σ bl) tx - a)))) = some D'
  rw [dpt_fr (f := σ bg) (fun j h1 h2 => (h.2 j).trans (if_neg (by omega))), hs.2, show a + (ee (σ bl) tx - a) = ee (σ bl) tx by omega, h.2, if_pos rfl]
  exact hv
/-- the code has grown by what leaves k more on the stack; s bytes more than signs were passed -/
def RLx (σ σ1 : Sg) (h bg bl : Nat) (tx : Int32) (k s : Nat) : Prop :=
  EX (σ bg) (σ bl) (σ1 bg) (σ1 bl) tx ∧ (σ1 bl tx.toNatClampNeg).toInt + (σ h 8).toInt + s ≤ (σ bl tx.toNatClampNeg).toInt + (σ1 h 8).toInt ∧
  ∀ a D : Nat, SD (σ bg) (σ bl) tx a D → (D : Int) ≤ (σ h 12).toInt → SD (σ1 bg) (σ1 bl) tx a (D + k) ∧ ((D + k : Nat) : Int) ≤ (σ1 h 12).toInt
theorem RLx.rf {σ : Sg} {h bg bl : Nat} {tx : Int32} : RLx σ σ h bg bl tx 0 0 := ⟨EX.rf, by omega, fun _ _ h1 h2 => ⟨h1, h2⟩⟩
theorem RLx.fr {σ σ1 σ2 : Sg} {h bg bl : Nat} {tx : Int32} {k s : Nat} (e : Nat) (H : RLx σ σ1 h bg bl tx k s) (eg : σ2 bg = σ1 bg) (el : σ2 bl = σ1 bl) (em : (σ1 h 12).toInt ≤ (σ2 h 12).toInt) (en : (σ1 h 8).toInt + e ≤ (σ2 h 8).toInt) : RLx σ σ2 h bg bl tx k (s + e) := by
  refine ⟨by rw [eg, el]; exact H.1, ?_, fun a D h1 h2 => ?_⟩
  · have := H.2.1; rw [el]; omega
  · have z := H.2.2 a D h1 h2; rw [eg, el]; exact ⟨z.1, by omega⟩
theorem RLx.tr {σ σ1 σ2 : Sg} {h bg bl : Nat} {tx : Int32} {k s k' s' : Nat} (H : RLx σ σ1 h bg bl tx k s) (H' : RLx σ1 σ2 h bg bl tx k' s') : RLx σ σ2 h bg bl tx (k + k') (s + s') := by
  refine ⟨H.1.tr H'.1, ?_, fun a D h1 h2 => ?_⟩
  · have := H.2.1; have := H'.2.1; omega
  · have z := H.2.2 a D h1 h2; have z' := H'.2.2 a _ z.1 z.2; rw [Nat.add_assoc] at z'; exact z'
theorem RLx.bin {σ σ1 σ2 : Sg} {h bg bl : Nat} {tx v : Int32} {k s : Nat} (H : RLx σ σ1 h bg bl tx (k + 2) (s + 1)) (P : PU σ1 σ2 bg bl tx v) (h0 : 0 ≤ (σ1 bl tx.toNatClampNeg).toInt) (em : σ2 h 12 = σ1 h 12) (en : σ2 h 8 = σ1 h 8) (hv : ∀ d : Nat, 2 ≤ d → stp v d = some (d - 1)) : RLx σ σ2 h bg bl tx (k + 1) s := by
  refine ⟨H.1.tr (P.ex h0), ?_, fun a D h1 h2 => ?_⟩
  · have := H.2.1; have := P.1; rw [en]; omega
  · have z := H.2.2 a D h1 h2
    refine ⟨P.sd h0 z.1 ((hv _ (by omega)).trans (by congr 1)), ?_⟩
    rw [em]; have := z.2; omega
theorem RLx.ps {σ σ1 σ2 : Sg} {h bg bl : Nat} {tx v : Int32} (eg : σ1 bg = σ bg) (el : σ1 bl = σ bl) (hm : (σ h 12).toInt + 1 ≤ (σ1 h 12).toInt) (h60 : (σ1 h 12).toInt ≤ 60) (hn : (σ h 8).toInt + 1 ≤ (σ1 h 8).toInt) (P : PU σ1 σ2 bg bl tx v) (h0 : 0 ≤ (σ1 bl tx.toNatClampNeg).toInt) (em : σ2 h 12 = σ1 h 12) (en : σ2 h 8 = σ1 h 8) (hv : ∀ d : Nat, d < 60 → stp v d = some (d + 1)) : RLx σ σ2 h bg bl tx 1 0 := by
  refine ⟨by have z := P.ex h0; rw [eg, el] at z; exact z, ?_, fun a D h1 h2 => ?_⟩
  · have := P.1; rw [en]; rw [el] at this; omega
  · refine ⟨P.sd h0 (by rw [eg, el]; exact h1) (hv D (by omega)), ?_⟩
    rw [em]; omega
theorem stp_bin {v : Int32} (h : v &&& 15 = 2 ∨ v &&& 15 = 3 ∨ v &&& 15 = 4 ∨ v &&& 15 = 5 ∨ v &&& 15 = 6 ∨ v &&& 15 = 7 ∨ v &&& 15 = 8 ∨ v &&& 15 = 9 ∨ v &&& 15 = 10 ∨ v &&& 15 = 12 ∨ v &&& 15 = 13 ∨ v &&& 15 = 14) (d : Nat) (hd : 2 ≤ d) : stp v d = some (d - 1) := by
  unfold stp
  rcases h with h | h | h | h | h | h | h | h | h | h | h | h <;> (rw [h]; rw [if_neg (by decide), if_neg (by decide), if_neg (by decide), if_pos hd])
theorem stp_not {v : Int32} (h : v &&& 15 = 11) (d : Nat) (hd : 1 ≤ d) : stp v d = some d := by
  unfold stp; rw [h, if_neg (by decide), if_neg (by decide), if_pos rfl, if_pos hd]
theorem pk16 {x v : Int32} (h0 : 0 ≤ v.toInt) (h1 : v.toInt ≤ 100000) (hx : 0 ≤ x.toInt) (hx1 : x.toInt ≤ 15) : (x + 16 * v) &&& 15 = x ∧ (x + 16 * v) >>> 4 = v := by
  have hb0 : v.toBitVec.toNat ≤ 100000 ∧ v.toBitVec.toInt = v.toInt := ⟨by
    have := Int32.toInt_toBitVec v
    have e := BitVec.toInt_eq_toNat_cond v.toBitVec
    have hlt := v.toBitVec.isLt
    rw [this] at e
    split at e <;> omega, Int32.toInt_toBitVec v⟩
  have hx0 : x.toBitVec.toNat ≤ 15 := by
    have := Int32.toInt_toBitVec x
    have e := BitVec.toInt_eq_toNat_cond x.toBitVec
    have hlt := x.toBitVec.isLt
    rw [this] at e
    split at e <;> omega
  have hs : (x + 16 * v).toBitVec.toNat = x.toBitVec.toNat + 16 * v.toBitVec.toNat := by
    rw [Int32.toBitVec_add, Int32.toBitVec_mul, BitVec.toNat_add, BitVec.toNat_mul]
    rw [show (16 : Int32).toBitVec.toNat = 16 from rfl]
    omega
  constructor
  · apply Int32.toBitVec_inj.mp
    apply BitVec.eq_of_toNat_eq
    rw [Int32.toBitVec_and, BitVec.toNat_and, hs, show (15 : Int32).toBitVec.toNat = 2 ^ 4 - 1 from rfl, Nat.and_two_pow_sub_one_eq_mod]
    omega
  · apply Int32.toBitVec_inj.mp
    rw [Int32.toBitVec_shiftRight]
    apply BitVec.eq_of_toInt_eq
    rw [show ((4 : Int32).toBitVec.smod 32) = 4#32 from by decide, BitVec.sshiftRight_eq', BitVec.toInt_sshiftRight]
    have e1 : (x + 16 * v).toBitVec.toInt = ((x.toBitVec.toNat + 16 * v.toBitVec.toNat : Nat) : Int) := by
      rw [BitVec.toInt_eq_toNat_cond, hs, if_pos (by omega)]
    have e2 : v.toBitVec.toInt = (v.toBitVec.toNat : Int) := by
      rw [BitVec.toInt_eq_toNat_cond, if_pos (by omega)]
    rw [e1, e2, show (4#32).toNat = 4 from rfl, Int.shiftRight_eq_div_pow]
    omega
theorem stp_num {v : Int32} (h0 : 0 ≤ v.toInt) (h1 : v.toInt ≤ 99999) (d : Nat) (hd : d < 60) : stp (0 + 16 * v) d = some (d + 1) := by
  unfold stp; rw [(pk16 (x := 0) h0 (by omega) (by decide) (by decide)).1, if_pos rfl, if_pos hd]
theorem stp_word {v : Int32} (h0 : 0 ≤ v.toInt) (h1 : v.toInt ≤ 9) (d : Nat) (hd : d < 60) : stp (1 + 16 * v) d = some (d + 1) := by
  have z := pk16 (x := 1) h0 (by omega) (by decide) (by decide)
  unfold stp; rw [z.1, if_neg (by decide), if_pos rfl, z.2, if_pos ⟨hd, h0, h1⟩]
/-- the signs that wait: those that join two, and all of them -/
def bn (o : Nat → Int32) : Nat → Nat
  | 0 => 0
  | n + 1 => bn o n + (if (o n).toInt = 12 ∨ (o n).toInt = 13 then 1 else 0)
theorem bn_fr {f g : Nat → Int32} : ∀ {n : Nat}, (∀ j : Nat, j < n → g j = f j) → bn g n = bn f n
  | 0, _ => rfl
  | n + 1, h => by
    show bn g n + _ = bn f n + _
    rw [bn_fr (n := n) (fun j hj => h j (by omega)), h n (by omega)]
def O4 (o : Nat → Int32) (n : Nat) : Prop := ∀ k : Nat, k < n → (o k).toInt = 11 ∨ (o k).toInt = 12 ∨ (o k).toInt = 13 ∨ (o k).toInt = 91
def TV (σ : Sg) (h bg bl bo : Nat) (tx : Int32) (a k : Nat) : Prop :=
  SD (σ bg) (σ bl) tx a (bn (σ bo) (σ h 16).toInt.toNat + k) ∧ ((bn (σ bo) (σ h 16).toInt.toNat + k : Nat) : Int) ≤ (σ h 12).toInt ∧ O4 (σ bo) (σ h 16).toInt.toNat ∧ (σ bl tx.toNatClampNeg).toInt + (σ h 16).toInt ≤ (σ h 8).toInt
theorem TV.fr {σ σ1 : Sg} {h bg bl bo : Nat} {tx : Int32} {a k : Nat} (H : TV σ h bg bl bo tx a k) (eg : σ1 bg = σ bg) (el : σ1 bl = σ bl) (eo : σ1 bo = σ bo) (e16 : σ1 h 16 = σ h 16) (e12 : (σ h 12).toInt ≤ (σ1 h 12).toInt) (e8 : (σ h 8).toInt ≤ (σ1 h 8).toInt) : TV σ1 h bg bl bo tx a k := by
  unfold TV; rw [eg, el, eo, e16]
  exact ⟨H.1, by have := H.2.1; omega, H.2.2.1, by have := H.2.2.2; omega⟩
theorem TV.rl {σ σ1 : Sg} {h bg bl bo : Nat} {tx : Int32} {a s : Nat} (H : TV σ h bg bl bo tx a 0) (R : RLx σ σ1 h bg bl tx 1 s) (eo : σ1 bo = σ bo) (e16 : σ1 h 16 = σ h 16) : TV σ1 h bg bl bo tx a 1 := by
  have z := R.2.2 a _ H.1 H.2.1
  unfold TV; rw [eo, e16]
  exact ⟨z.1, z.2, H.2.2.1, by have := H.2.2.2; have := R.2.1; omega⟩
/-- one more waits: not, a bracket (k stays), or a sign that joins two (k is 0 then) -/
theorem TV.op {σ σ1 : Sg} {h bg bl bo : Nat} {tx w : Int32} {a : Nat} (H : TV σ h bg bl bo tx a 0) (hw : w.toInt = 11 ∨ w.toInt = 91) (h0 : 0 ≤ (σ h 16).toInt) (eg : σ1 bg = σ bg) (el : σ1 bl = σ bl) (eo : ∀ j : Nat, σ1 bo j = if j = (σ h 16).toInt.toNat then w else σ bo j) (e16 : (σ1 h 16).toInt = (σ h 16).toInt + 1) (e12 : (σ h 12).toInt ≤ (σ1 h 12).toInt) (e8 : (σ h 8).toInt + 1 ≤ (σ1 h 8).toInt) : TV σ1 h bg bl bo tx a 0 := by
  have en : (σ1 h 16).toInt.toNat = (σ h 16).toInt.toNat + 1 := by omega
  have eb : bn (σ1 bo) (σ1 h 16).toInt.toNat = bn (σ bo) (σ h 16).toInt.toNat := by
    rw [en]; show bn (σ1 bo) _ + _ = _
    rw [bn_fr (f := σ bo) (fun j hj => by rw [eo j, if_neg (by omega)]), eo, if_pos rfl, if_neg (by omega)]
    rfl
  unfold TV; rw [eg, el, eb]
  refine ⟨H.1, by have := H.2.1; omega, fun k hk => ?_, by have := H.2.2.2; omega⟩
  rw [eo k]; split
  · omega
  · exact H.2.2.1 k (by omega)
theorem TV.jn {σ σ1 : Sg} {h bg bl bo : Nat} {tx w : Int32} {a : Nat} (H : TV σ h bg bl bo tx a 1) (hw : w.toInt = 12 ∨ w.toInt = 13) (h0 : 0 ≤ (σ h 16).toInt) (eg : σ1 bg = σ bg) (el : σ1 bl = σ bl) (eo : ∀ j : Nat, σ1 bo j = if j = (σ h 16).toInt.toNat then w else σ bo j) (e16 : (σ1 h 16).toInt = (σ h 16).toInt + 1) (e12 : (σ h 12).toInt ≤ (σ1 h 12).toInt) (e8 : (σ bl tx.toNatClampNeg).toInt + (σ h 16).toInt + 1 ≤ (σ1 h 8).toInt) : TV σ1 h bg bl bo tx a 0 := by
  have en : (σ1 h 16).toInt.toNat = (σ h 16).toInt.toNat + 1 := by omega
  have eb : bn (σ1 bo) (σ1 h 16).toInt.toNat = bn (σ bo) (σ h 16).toInt.toNat + 1 := by
    rw [en]; show bn (σ1 bo) _ + _ = _
    rw [bn_fr (f := σ bo) (fun j hj => by rw [eo j, if_neg (by omega)]), eo, if_pos rfl, if_pos (by omega)]
  unfold TV; rw [eg, el, eb]
  refine ⟨H.1, by have := H.2.1; omega, fun k hk => ?_, by omega⟩
  rw [eo k]; split
  · omega
  · exact H.2.2.1 k (by omega)
/-- the last that waits comes behind the code -/
theorem TV.pop {σ σ1 : Sg} {h bg bl bo : Nat} {tx v : Int32} {a : Nat} (H : TV σ h bg bl bo tx a 1) (h0 : 1 ≤ (σ h 16).toInt) (hl : 0 ≤ (σ bl tx.toNatClampNeg).toInt) (hv : ((σ bo ((σ h 16).toInt.toNat - 1)).toInt = 11 ∧ v &&& 15 = 11) ∨ ((σ bo ((σ h 16).toInt.toNat - 1)).toInt = 12 ∧ v &&& 15 = 12) ∨ ((σ bo ((σ h 16).toInt.toNat - 1)).toInt = 13 ∧ v &&& 15 = 13)) (P : PU σ σ1 bg bl tx v) (eo : σ1 bo = σ bo) (e16 : (σ1 h 16).toInt = (σ h 16).toInt - 1) (e12 : σ1 h 12 = σ h 12) (e8 : σ1 h 8 = σ h 8) : TV σ1 h bg bl bo tx a 1 := by
  obtain ⟨n, hn⟩ : ∃ n : Nat, (σ h 16).toInt.toNat = n + 1 := ⟨(σ h 16).toInt.toNat - 1, by omega⟩
  have e1 : (σ1 h 16).toInt.toNat = n := by omega
  rw [show (σ h 16).toInt.toNat - 1 = n by omega] at hv
  have hs := H.1; have hm := H.2.1; have ho := H.2.2.1; have hq := H.2.2.2
  rw [hn] at hs hm ho
  unfold TV; rw [eo, e1, e12, e8]
  have hp := P.1
  have hbn : bn (σ bo) (n + 1) = bn (σ bo) n + (if (σ bo n).toInt = 12 ∨ (σ bo n).toInt = 13 then 1 else 0) := rfl
  have key : stp v (bn (σ bo) (n + 1) + 1) = some (bn (σ bo) n + 1) := by
    rcases hv with ⟨h1, h2⟩ | ⟨h1, h2⟩ | ⟨h1, h2⟩
    · rw [hbn, if_neg (by omega)]; exact stp_not h2 _ (by omega)
    · rw [hbn, if_pos (by omega), stp_bin (by simp [h2]) _ (by omega)]; congr 1
    · rw [hbn, if_pos (by omega), stp_bin (by simp [h2]) _ (by omega)]; congr 1
  refine ⟨P.sd hl hs key, ?_, fun k hk => ho k (by omega), by omega⟩
  rw [hbn] at hm; split at hm <;> omega
/-- a bracket is closed -/
theorem TV.cl {σ σ1 : Sg} {h bg bl bo : Nat} {tx : Int32} {a : Nat} (H : TV σ h bg bl bo tx a 1) (h0 : 1 ≤ (σ h 16).toInt) (hv : (σ bo ((σ h 16).toInt.toNat - 1)).toInt ≠ 12 ∧ (σ bo ((σ h 16).toInt.toNat - 1)).toInt ≠ 13) (eg : σ1 bg = σ bg) (el : σ1 bl = σ bl) (eo : σ1 bo = σ bo) (e16 : (σ1 h 16).toInt = (σ h 16).toInt - 1) (e12 : σ1 h 12 = σ h 12) (e8 : (σ h 8).toInt ≤ (σ1 h 8).toInt) : TV σ1 h bg bl bo tx a 1 := by
  obtain ⟨n, hn⟩ : ∃ n : Nat, (σ h 16).toInt.toNat = n + 1 := ⟨(σ h 16).toInt.toNat - 1, by omega⟩
  have e1 : (σ1 h 16).toInt.toNat = n := by omega
  rw [show (σ h 16).toInt.toNat - 1 = n by omega] at hv
  have hs := H.1; have hm := H.2.1; have ho := H.2.2.1; have hq := H.2.2.2
  rw [hn] at hs hm ho
  have hbn : bn (σ bo) (n + 1) = bn (σ bo) n := by
    show bn (σ bo) n + _ = _
    rw [if_neg (by omega)]; rfl
  rw [hbn] at hs hm
  unfold TV; rw [eg, el, eo, e1, e12]
  exact ⟨hs, hm, fun k hk => ho k (by omega), by omega⟩
/-- nothing waits any more -/
theorem TV.no {σ : Sg} {h bg bl bo : Nat} {tx : Int32} {a : Nat} (H : TV σ h bg bl bo tx a 1) (h0 : (σ h 16).toInt = 0) : SD (σ bg) (σ bl) tx a 1 := by
  have hs := H.1; rw [show (σ h 16).toInt.toNat = 0 by omega] at hs; exact hs
