theorem LI.seed {σ σ1 σ2 : Sg} {p x y : Int32} {qx bw w0 w1 w2 w3 qm bg bk bc bx bi bf : Nat} (h : LI σ qx bw w0 w1 w2 w3 qm bg bk bc bx bi bf) (hc : (p.toInt < 0 → x = -1 ∧ σ1 bw 8 = σ bw 8) ∧ (0 ≤ p.toInt → x = σ bw 8 ∧ σ1 bw 8 = p)) (hm : (p.toInt < 0 → y = -1 ∧ σ2 qm 22 = σ1 qm 22) ∧ (0 ≤ p.toInt → y = σ1 qm 22 ∧ σ2 qm 22 = p)) (a : σ1 qm 22 = σ qm 22) (b : σ2 bw 8 = σ1 bw 8) (r1 : σ2 bg = σ bg) (r2 : σ2 bk = σ bk) (r3 : σ2 bc = σ bc) (r4 : σ2 qm 2 = σ qm 2) (r5 : σ2 qm 21 = σ qm 21) (r6 : σ2 bf = σ bf) (v0 : σ2 w0 8 = σ w0 8) (v1 : σ2 w1 8 = σ w1 8) (v2 : σ2 w2 8 = σ w2 8) (v3 : σ2 w3 8 = σ w3 8) (r7 : σ2 bx = σ bx) (r8 : σ2 bi = σ bi) (r9 : σ2 qx 11 = σ qx 11) : x = y ∧ LI σ2 qx bw w0 w1 w2 w3 qm bg bk bc bx bi bf := by
  obtain ⟨a1, a2, a3, a4, a5, a6⟩ := h
  have hl : (x = y ∧ σ2 bw 8 = σ2 qm 22) := by
    by_cases hp : p.toInt < 0
    · obtain ⟨c1, c2⟩ := hc.1 hp
      obtain ⟨d1, d2⟩ := hm.1 hp
      exact ⟨c1.trans d1.symm, by rw [b, c2, d2, a]; exact a4⟩
    · obtain ⟨c1, c2⟩ := hc.2 (by omega)
      obtain ⟨d1, d2⟩ := hm.2 (by omega)
      exact ⟨c1.trans (a4.trans (a.symm.trans d1.symm)), by rw [b, c2, d2]⟩
  refine ⟨hl.1, ?_, ?_, ?_, hl.2, ?_, ?_⟩
  · rw [r1, r2, r3, r4]; exact a1
  · rw [r4, r5]; exact a2
  · rw [r4, r6, r8]; exact a3
  · rw [v0, v1, v2, v3, r7]; exact a5
  · rw [r8, r9]; exact a6
theorem LI.image {σ σ1 σ2 : Sg} {p : Int32} {qx bw w0 w1 w2 w3 qm bg bk bc bx bi bf : Nat} (h : LI σ qx bw w0 w1 w2 w3 qm bg bk bc bx bi bf) (c0 : (p.toInt = 0 → σ1 w0 8 = σ bw 8) ∧ (¬ p.toInt = 0 → σ1 w0 8 = σ w0 8)) (c1 : (p.toInt = 1 → σ1 w1 8 = σ bw 8) ∧ (¬ p.toInt = 1 → σ1 w1 8 = σ w1 8)) (c2 : (p.toInt = 2 → σ1 w2 8 = σ bw 8) ∧ (¬ p.toInt = 2 → σ1 w2 8 = σ w2 8)) (c3 : (p.toInt = 3 → σ1 w3 8 = σ bw 8) ∧ (¬ p.toInt = 3 → σ1 w3 8 = σ w3 8)) (cb : ((0 ≤ p.toInt ∧ p.toInt ≤ 3) → σ1 qx 11 = σ qx 11 ||| (1 <<< p)) ∧ (¬ (0 ≤ p.toInt ∧ p.toInt ≤ 3) → σ1 qx 11 = σ qx 11)) (d0 : (p.toInt = 0 → σ2 bx 0 = σ1 qm 22 ∧ σ2 bi 0 = 1 ∧ σ2 bf 0 = σ1 qm 21) ∧ (¬ p.toInt = 0 → σ2 bx 0 = σ1 bx 0 ∧ σ2 bi 0 = σ1 bi 0 ∧ σ2 bf 0 = σ1 bf 0)) (d1 : (p.toInt = 1 → σ2 bx 1 = σ1 qm 22 ∧ σ2 bi 1 = 1 ∧ σ2 bf 1 = σ1 qm 21) ∧ (¬ p.toInt = 1 → σ2 bx 1 = σ1 bx 1 ∧ σ2 bi 1 = σ1 bi 1 ∧ σ2 bf 1 = σ1 bf 1)) (d2 : (p.toInt = 2 → σ2 bx 2 = σ1 qm 22 ∧ σ2 bi 2 = 1 ∧ σ2 bf 2 = σ1 qm 21) ∧ (¬ p.toInt = 2 → σ2 bx 2 = σ1 bx 2 ∧ σ2 bi 2 = σ1 bi 2 ∧ σ2 bf 2 = σ1 bf 2)) (d3 : (p.toInt = 3 → σ2 bx 3 = σ1 qm 22 ∧ σ2 bi 3 = 1 ∧ σ2 bf 3 = σ1 qm 21) ∧ (¬ p.toInt = 3 → σ2 bx 3 = σ1 bx 3 ∧ σ2 bi 3 = σ1 bi 3 ∧ σ2 bf 3 = σ1 bf 3)) (s1 : σ1 qm 22 = σ qm 22) (s2 : σ1 qm 21 = σ qm 21) (s3 : σ1 bx = σ bx) (s4 : σ1 bi = σ bi) (s5 : σ1 bf = σ bf) (v0 : σ2 w0 8 = σ1 w0 8) (v1 : σ2 w1 8 = σ1 w1 8) (v2 : σ2 w2 8 = σ1 w2 8) (v3 : σ2 w3 8 = σ1 w3 8) (u : σ2 qx 11 = σ1 qx 11) (r1 : σ2 bg = σ bg) (r2 : σ2 bk = σ bk) (r3 : σ2 bc = σ bc) (r4 : σ2 qm 2 = σ qm 2) (r5 : σ2 qm 21 = σ qm 21) (r6 : σ2 qm 22 = σ qm 22) (r7 : σ2 bw 8 = σ bw 8) : LI σ2 qx bw w0 w1 w2 w3 qm bg bk bc bx bi bf := by
  obtain ⟨a1, a2, a3, a4, ⟨b0, b1, b2, b3⟩, e0, e1, e2, e3⟩ := h
  rw [s1, s2, s3, s4, s5] at d0 d1 d2 d3
  have f0 : σ2 w0 8 = σ2 bx 0 ∧ (¬ (σ2 bi 0).toInt = 0 → (σ2 bf 0).toInt < (σ qm 2).toInt) := by
    by_cases hp : p.toInt = 0
    · obtain ⟨z1, z2, z3⟩ := d0.1 hp
      exact ⟨by rw [v0, c0.1 hp, z1]; exact a4, fun _ => by rw [z3]; exact a2⟩
    · obtain ⟨z1, z2, z3⟩ := d0.2 hp
      exact ⟨by rw [v0, c0.2 hp, z1]; exact b0, by rw [z2, z3]; exact a3 0 (by decide)⟩
  have g0 : bt0 (σ2 qx 11) 0 = (σ2 bi 0).toInt := by
    rw [u]
    by_cases hr : 0 ≤ p.toInt ∧ p.toInt ≤ 3
    · rw [cb.1 hr]
      rcases (show p.toInt = 0 ∨ p.toInt = 1 ∨ p.toInt = 2 ∨ p.toInt = 3 by omega) with q | q | q | q
      · have e : p = 0 := i_is (by decide) q
        rw [(d0.1 (by omega)).2.1, e, (bt_or (σ qx 11) ((1 : Int32) <<< (0 : Int32)) 0 1 (by decide)).2 rfl]; decide
      · have e : p = 1 := i_is (by decide) q
        rw [(d0.2 (by omega)).2.1, e, (bt_or (σ qx 11) ((1 : Int32) <<< (1 : Int32)) 0 0 (by decide)).1 rfl]; exact e0
      · have e : p = 2 := i_is (by decide) q
        rw [(d0.2 (by omega)).2.1, e, (bt_or (σ qx 11) ((1 : Int32) <<< (2 : Int32)) 0 0 (by decide)).1 rfl]; exact e0
      · have e : p = 3 := i_is (by decide) q
        rw [(d0.2 (by omega)).2.1, e, (bt_or (σ qx 11) ((1 : Int32) <<< (3 : Int32)) 0 0 (by decide)).1 rfl]; exact e0
    · rw [cb.2 hr, (d0.2 (by omega)).2.1]; exact e0
  have f1 : σ2 w1 8 = σ2 bx 1 ∧ (¬ (σ2 bi 1).toInt = 0 → (σ2 bf 1).toInt < (σ qm 2).toInt) := by
    by_cases hp : p.toInt = 1
    · obtain ⟨z1, z2, z3⟩ := d1.1 hp
      exact ⟨by rw [v1, c1.1 hp, z1]; exact a4, fun _ => by rw [z3]; exact a2⟩
    · obtain ⟨z1, z2, z3⟩ := d1.2 hp
      exact ⟨by rw [v1, c1.2 hp, z1]; exact b1, by rw [z2, z3]; exact a3 1 (by decide)⟩
  have g1 : bt0 (σ2 qx 11) 1 = (σ2 bi 1).toInt := by
    rw [u]
    by_cases hr : 0 ≤ p.toInt ∧ p.toInt ≤ 3
    · rw [cb.1 hr]
      rcases (show p.toInt = 0 ∨ p.toInt = 1 ∨ p.toInt = 2 ∨ p.toInt = 3 by omega) with q | q | q | q
      · have e : p = 0 := i_is (by decide) q
        rw [(d1.2 (by omega)).2.1, e, (bt_or (σ qx 11) ((1 : Int32) <<< (0 : Int32)) 1 0 (by decide)).1 rfl]; exact e1
      · have e : p = 1 := i_is (by decide) q
        rw [(d1.1 (by omega)).2.1, e, (bt_or (σ qx 11) ((1 : Int32) <<< (1 : Int32)) 1 1 (by decide)).2 rfl]; decide
      · have e : p = 2 := i_is (by decide) q
        rw [(d1.2 (by omega)).2.1, e, (bt_or (σ qx 11) ((1 : Int32) <<< (2 : Int32)) 1 0 (by decide)).1 rfl]; exact e1
      · have e : p = 3 := i_is (by decide) q
        rw [(d1.2 (by omega)).2.1, e, (bt_or (σ qx 11) ((1 : Int32) <<< (3 : Int32)) 1 0 (by decide)).1 rfl]; exact e1
    · rw [cb.2 hr, (d1.2 (by omega)).2.1]; exact e1
  have f2 : σ2 w2 8 = σ2 bx 2 ∧ (¬ (σ2 bi 2).toInt = 0 → (σ2 bf 2).toInt < (σ qm 2).toInt) := by
    by_cases hp : p.toInt = 2
    · obtain ⟨z1, z2, z3⟩ := d2.1 hp
      exact ⟨by rw [v2, c2.1 hp, z1]; exact a4, fun _ => by rw [z3]; exact a2⟩
    · obtain ⟨z1, z2, z3⟩ := d2.2 hp
      exact ⟨by rw [v2, c2.2 hp, z1]; exact b2, by rw [z2, z3]; exact a3 2 (by decide)⟩
  have g2 : bt0 (σ2 qx 11) 2 = (σ2 bi 2).toInt := by
    rw [u]
    by_cases hr : 0 ≤ p.toInt ∧ p.toInt ≤ 3
    · rw [cb.1 hr]
      rcases (show p.toInt = 0 ∨ p.toInt = 1 ∨ p.toInt = 2 ∨ p.toInt = 3 by omega) with q | q | q | q
      · have e : p = 0 := i_is (by decide) q
        rw [(d2.2 (by omega)).2.1, e, (bt_or (σ qx 11) ((1 : Int32) <<< (0 : Int32)) 2 0 (by decide)).1 rfl]; exact e2
      · have e : p = 1 := i_is (by decide) q
        rw [(d2.2 (by omega)).2.1, e, (bt_or (σ qx 11) ((1 : Int32) <<< (1 : Int32)) 2 0 (by decide)).1 rfl]; exact e2
      · have e : p = 2 := i_is (by decide) q
        rw [(d2.1 (by omega)).2.1, e, (bt_or (σ qx 11) ((1 : Int32) <<< (2 : Int32)) 2 1 (by decide)).2 rfl]; decide
      · have e : p = 3 := i_is (by decide) q
        rw [(d2.2 (by omega)).2.1, e, (bt_or (σ qx 11) ((1 : Int32) <<< (3 : Int32)) 2 0 (by decide)).1 rfl]; exact e2
    · rw [cb.2 hr, (d2.2 (by omega)).2.1]; exact e2
  have f3 : σ2 w3 8 = σ2 bx 3 ∧ (¬ (σ2 bi 3).toInt = 0 → (σ2 bf 3).toInt < (σ qm 2).toInt) := by
    by_cases hp : p.toInt = 3
    · obtain ⟨z1, z2, z3⟩ := d3.1 hp
      exact ⟨by rw [v3, c3.1 hp, z1]; exact a4, fun _ => by rw [z3]; exact a2⟩
    · obtain ⟨z1, z2, z3⟩ := d3.2 hp
      exact ⟨by rw [v3, c3.2 hp, z1]; exact b3, by rw [z2, z3]; exact a3 3 (by decide)⟩
  have g3 : bt0 (σ2 qx 11) 3 = (σ2 bi 3).toInt := by
    rw [u]
    by_cases hr : 0 ≤ p.toInt ∧ p.toInt ≤ 3
    · rw [cb.1 hr]
      rcases (show p.toInt = 0 ∨ p.toInt = 1 ∨ p.toInt = 2 ∨ p.toInt = 3 by omega) with q | q | q | q
      · have e : p = 0 := i_is (by decide) q
        rw [(d3.2 (by omega)).2.1, e, (bt_or (σ qx 11) ((1 : Int32) <<< (0 : Int32)) 3 0 (by decide)).1 rfl]; exact e3
      · have e : p = 1 := i_is (by decide) q
        rw [(d3.2 (by omega)).2.1, e, (bt_or (σ qx 11) ((1 : Int32) <<< (1 : Int32)) 3 0 (by decide)).1 rfl]; exact e3
      · have e : p = 2 := i_is (by decide) q
        rw [(d3.2 (by omega)).2.1, e, (bt_or (σ qx 11) ((1 : Int32) <<< (2 : Int32)) 3 0 (by decide)).1 rfl]; exact e3
      · have e : p = 3 := i_is (by decide) q
        rw [(d3.1 (by omega)).2.1, e, (bt_or (σ qx 11) ((1 : Int32) <<< (3 : Int32)) 3 1 (by decide)).2 rfl]; decide
    · rw [cb.2 hr, (d3.2 (by omega)).2.1]; exact e3
  refine ⟨by rw [r1, r2, r3, r4]; exact a1, by rw [r4, r5]; exact a2, fun j hj => ?_, by rw [r6, r7]; exact a4, ⟨f0.1, f1.1, f2.1, f3.1⟩, g0, g1, g2, g3⟩
  rw [r4]
  match j, hj with
  | 0, _ => exact f0.2
  | 1, _ => exact f1.2
  | 2, _ => exact f2.2
  | 3, _ => exact f3.2
  | j + 4, hj => exact absurd hj (by omega)
theorem LI.back {σ σ1 σ2 : Sg} {p : Int32} {qx bw w0 w1 w2 w3 qm bg bk bc bx bi bf : Nat} (h : LI σ qx bw w0 w1 w2 w3 qm bg bk bc bx bi bf) (co : (p.toInt < 0 ∨ 3 < p.toInt) → σ1 bw 8 = σ bw 8) (c0 : p.toInt = 0 → (bt0 (σ qx 11) 0 = 0 → σ1 bw 8 = σ bw 8) ∧ (¬ bt0 (σ qx 11) 0 = 0 → σ1 bw 8 = σ w0 8)) (c1 : p.toInt = 1 → (bt0 (σ qx 11) 1 = 0 → σ1 bw 8 = σ bw 8) ∧ (¬ bt0 (σ qx 11) 1 = 0 → σ1 bw 8 = σ w1 8)) (c2 : p.toInt = 2 → (bt0 (σ qx 11) 2 = 0 → σ1 bw 8 = σ bw 8) ∧ (¬ bt0 (σ qx 11) 2 = 0 → σ1 bw 8 = σ w2 8)) (c3 : p.toInt = 3 → (bt0 (σ qx 11) 3 = 0 → σ1 bw 8 = σ bw 8) ∧ (¬ bt0 (σ qx 11) 3 = 0 → σ1 bw 8 = σ w3 8)) (do9 : (p.toInt < 0 ∨ 3 < p.toInt) → σ2 qm 22 = σ1 qm 22 ∧ σ2 qm 21 = σ1 qm 21) (d0 : p.toInt = 0 → ((σ1 bi 0).toInt = 0 → σ2 qm 22 = σ1 qm 22 ∧ σ2 qm 21 = σ1 qm 21) ∧ (¬ (σ1 bi 0).toInt = 0 → σ2 qm 22 = σ1 bx 0 ∧ σ2 qm 21 = σ1 bf 0)) (d1 : p.toInt = 1 → ((σ1 bi 1).toInt = 0 → σ2 qm 22 = σ1 qm 22 ∧ σ2 qm 21 = σ1 qm 21) ∧ (¬ (σ1 bi 1).toInt = 0 → σ2 qm 22 = σ1 bx 1 ∧ σ2 qm 21 = σ1 bf 1)) (d2 : p.toInt = 2 → ((σ1 bi 2).toInt = 0 → σ2 qm 22 = σ1 qm 22 ∧ σ2 qm 21 = σ1 qm 21) ∧ (¬ (σ1 bi 2).toInt = 0 → σ2 qm 22 = σ1 bx 2 ∧ σ2 qm 21 = σ1 bf 2)) (d3 : p.toInt = 3 → ((σ1 bi 3).toInt = 0 → σ2 qm 22 = σ1 qm 22 ∧ σ2 qm 21 = σ1 qm 21) ∧ (¬ (σ1 bi 3).toInt = 0 → σ2 qm 22 = σ1 bx 3 ∧ σ2 qm 21 = σ1 bf 3)) (s1 : σ1 qm 22 = σ qm 22) (s2 : σ1 qm 21 = σ qm 21) (s3 : σ1 bx = σ bx) (s4 : σ1 bi = σ bi) (s5 : σ1 bf = σ bf) (b : σ2 bw 8 = σ1 bw 8) (r1 : σ2 bg = σ bg) (r2 : σ2 bk = σ bk) (r3 : σ2 bc = σ bc) (r4 : σ2 qm 2 = σ qm 2) (r6 : σ2 bf = σ bf) (v0 : σ2 w0 8 = σ w0 8) (v1 : σ2 w1 8 = σ w1 8) (v2 : σ2 w2 8 = σ w2 8) (v3 : σ2 w3 8 = σ w3 8) (r7 : σ2 bx = σ bx) (r8 : σ2 bi = σ bi) (r9 : σ2 qx 11 = σ qx 11) : LI σ2 qx bw w0 w1 w2 w3 qm bg bk bc bx bi bf := by
  obtain ⟨a1, a2, a3, a4, ⟨b0, b1, b2, b3⟩, e0, e1, e2, e3⟩ := h
  rw [s1, s2] at do9
  rw [s1, s2, s3, s4, s5] at d0 d1 d2 d3
  have hl : σ2 bw 8 = σ2 qm 22 ∧ (σ2 qm 21).toInt < (σ qm 2).toInt := by
    rw [b]
    by_cases hr : p.toInt < 0 ∨ 3 < p.toInt
    · rw [co hr, (do9 hr).1, (do9 hr).2]; exact ⟨a4, a2⟩
    · rcases (show p.toInt = 0 ∨ p.toInt = 1 ∨ p.toInt = 2 ∨ p.toInt = 3 by omega) with q | q | q | q
      · by_cases z : (σ bi 0).toInt = 0
        · rw [((c0 q).1 (e0.trans z)), ((d0 q).1 z).1, ((d0 q).1 z).2]; exact ⟨a4, a2⟩
        · rw [((c0 q).2 (fun y => z (e0.symm.trans y))), ((d0 q).2 z).1, ((d0 q).2 z).2]; exact ⟨b0, a3 0 (by decide) z⟩
      · by_cases z : (σ bi 1).toInt = 0
        · rw [((c1 q).1 (e1.trans z)), ((d1 q).1 z).1, ((d1 q).1 z).2]; exact ⟨a4, a2⟩
        · rw [((c1 q).2 (fun y => z (e1.symm.trans y))), ((d1 q).2 z).1, ((d1 q).2 z).2]; exact ⟨b1, a3 1 (by decide) z⟩
      · by_cases z : (σ bi 2).toInt = 0
        · rw [((c2 q).1 (e2.trans z)), ((d2 q).1 z).1, ((d2 q).1 z).2]; exact ⟨a4, a2⟩
        · rw [((c2 q).2 (fun y => z (e2.symm.trans y))), ((d2 q).2 z).1, ((d2 q).2 z).2]; exact ⟨b2, a3 2 (by decide) z⟩
      · by_cases z : (σ bi 3).toInt = 0
        · rw [((c3 q).1 (e3.trans z)), ((d3 q).1 z).1, ((d3 q).1 z).2]; exact ⟨a4, a2⟩
        · rw [((c3 q).2 (fun y => z (e3.symm.trans y))), ((d3 q).2 z).1, ((d3 q).2 z).2]; exact ⟨b3, a3 3 (by decide) z⟩
  refine ⟨by rw [r1, r2, r3, r4]; exact a1, by rw [r4]; exact hl.2, by rw [r4, r6, r8]; exact a3, hl.1, by rw [v0, v1, v2, v3, r7]; exact ⟨b0, b1, b2, b3⟩, by rw [r8, r9]; exact ⟨e0, e1, e2, e3⟩⟩
