def Fs0 (r : Nat → Option Nat) (v : Nat → Int32) (w : Nat → Int64) : List Value := [va_rf (r 0), va_rf (r 1), va_rf (r 2), va_rf (r 3), .int (v 4), .int (v 5)]
def Fs1 (r : Nat → Option Nat) (v : Nat → Int32) (w : Nat → Int64) : List Value := [va_rf (r 0), va_rf (r 1), va_rf (r 2), va_rf (r 3), .int (v 4), va_rf (r 5), va_rf (r 6), va_rf (r 7), .int (v 8)]
def Fs2 (r : Nat → Option Nat) (v : Nat → Int32) (w : Nat → Int64) : List Value := [va_rf (r 0), va_rf (r 1), va_rf (r 2), .int (v 3)]
def Fs3 (r : Nat → Option Nat) (v : Nat → Int32) (w : Nat → Int64) : List Value := [va_rf (r 0), va_rf (r 1), va_rf (r 2), va_rf (r 3), va_rf (r 4), va_rf (r 5), .int (v 6), .int (v 7), .int (v 8), .int (v 9), .int (v 10)]
def Fs4 (r : Nat → Option Nat) (v : Nat → Int32) (w : Nat → Int64) : List Value := [va_rf (r 0), .int (v 1)]
def Fs5 (r : Nat → Option Nat) (v : Nat → Int32) (w : Nat → Int64) : List Value := [va_rf (r 0), .int (v 1), .int (v 2)]
def Fs6 (r : Nat → Option Nat) (v : Nat → Int32) (w : Nat → Int64) : List Value := [va_rf (r 0), va_rf (r 1), va_rf (r 2), .int (v 3), .int (v 4), .int (v 5)]
def Fs7 (r : Nat → Option Nat) (v : Nat → Int32) (w : Nat → Int64) : List Value := [va_rf (r 0), va_rf (r 1), va_rf (r 2), va_rf (r 3), .int (v 4), .int (v 5), .int (v 6), .int (v 7)]
def Fs8 (r : Nat → Option Nat) (v : Nat → Int32) (w : Nat → Int64) : List Value := [va_rf (r 0), va_rf (r 1), va_rf (r 2), va_rf (r 3), va_rf (r 4), va_rf (r 5), .int (v 6), .int (v 7)]
def Fs9 (r : Nat → Option Nat) (v : Nat → Int32) (w : Nat → Int64) : List Value := [va_rf (r 0), va_rf (r 1), va_rf (r 2), va_rf (r 3), .int (v 4), .int (v 5), .int (v 6)]
def Fs10 (r : Nat → Option Nat) (v : Nat → Int32) (w : Nat → Int64) : List Value := [va_rf (r 0), va_rf (r 1), va_rf (r 2), va_rf (r 3), va_rf (r 4), va_rf (r 5), .int (v 6), .int (v 7), .int (v 8)]
def Fs11 (r : Nat → Option Nat) (v : Nat → Int32) (w : Nat → Int64) : List Value := [va_rf (r 0), va_rf (r 1), va_rf (r 2), va_rf (r 3), va_rf (r 4), va_rf (r 5), va_rf (r 6), va_rf (r 7), va_rf (r 8), va_rf (r 9), .int (v 10), .int (v 11)]
def Fs12 (r : Nat → Option Nat) (v : Nat → Int32) (w : Nat → Int64) : List Value := [va_rf (r 0), .int (v 1), .int (v 2), va_rf (r 3), va_rf (r 4), va_rf (r 5), va_rf (r 6), va_rf (r 7), .int (v 8), .int (v 9), .int (v 10), .int (v 11), .int (v 12), .int (v 13), .int (v 14), va_rf (r 15), .int (v 16), va_rf (r 17), .int (v 18), va_rf (r 19), va_rf (r 20), .int (v 21), .int (v 22), va_rf (r 23), va_rf (r 24), .int (v 25), va_rf (r 26), va_rf (r 27), va_rf (r 28), va_rf (r 29), .int (v 30), .int (v 31), va_rf (r 32), .int (v 33), .int (v 34), va_rf (r 35), va_rf (r 36), va_rf (r 37), va_rf (r 38), .long (w 39), va_rf (r 40), va_rf (r 41), va_rf (r 42), va_rf (r 43)]
def shp (cA : Nat → ClassId) (t : Nat) (r : Nat → Option Nat) (v : Nat → Int32) (w : Nat → Int64) : va_E := match t with
  | 0 => .inr (0, Fs0 r v w)
  | 1 => .inr (1, Fs1 r v w)
  | 2 => .inr (2, Fs2 r v w)
  | 3 => .inr (3, Fs3 r v w)
  | 4 => .inr (4, Fs4 r v w)
  | 5 => .inr (5, Fs5 r v w)
  | 6 => .inr (6, Fs6 r v w)
  | 7 => .inr (7, Fs7 r v w)
  | 8 => .inr (8, Fs8 r v w)
  | 9 => .inr (9, Fs9 r v w)
  | 10 => .inr (10, Fs10 r v w)
  | 11 => .inr (11, Fs11 r v w)
  | 12 => .inr (12, Fs12 r v w)
  | 13 => .inr (10, Fs10 r v w)
  | 14 => .inr (10, Fs10 r v w)
  | 15 => .inr (10, Fs10 r v w)
  | 16 => .inr (10, Fs10 r v w)
  | 17 => .inr (3, Fs3 r v w)
  | 18 => .inr (3, Fs3 r v w)
  | 20 => .inl (cA 1, 5, .inl v)
  | 21 => .inl (cA 1, 5, .inl v)
  | 22 => .inl (cA 1, 5, .inl v)
  | 23 => .inl (cA 1, 1024, .inl v)
  | 24 => .inl (cA 1, 5, .inl v)
  | 25 => .inl (cA 1, 5, .inl v)
  | 26 => .inl (cA 1, 8, .inl v)
  | 27 => .inl (cA 1, 5, .inl v)
  | 28 => .inl (cA 1, 5, .inl v)
  | 29 => .inl (cA 1, 8, .inl v)
  | 30 => .inl (cA 1, 8, .inl v)
  | 31 => .inl (cA 1, 427, .inl v)
  | 32 => .inl (cA 1, 5, .inl v)
  | 33 => .inl (cA 1, 5, .inl v)
  | 34 => .inl (cA 1, 5, .inl v)
  | 35 => .inl (cA 1, 5, .inl v)
  | 36 => .inl (cA 1, 8, .inl v)
  | 37 => .inl (cA 1, 8, .inl v)
  | 38 => .inl (cA 4, 20, .inr (.inr (.inr (.inr r))))
  | 39 => .inl (cA 2, 10, .inr (.inl w))
  | 40 => .inl (cA 2, 64, .inr (.inl w))
  | 41 => .inl (cA 1, 401, .inl v)
  | 42 => .inl (cA 1, 12, .inl v)
  | 43 => .inl (cA 1, 12, .inl v)
  | 44 => .inl (cA 1, 12, .inl v)
  | 45 => .inl (cA 1, 4, .inl v)
  | 46 => .inl (cA 1, 4, .inl v)
  | 47 => .inl (cA 1, 4, .inl v)
  | 48 => .inl (cA 1, 4, .inl v)
  | 49 => .inl (cA 1, 20, .inl v)
  | 50 => .inl (cA 1, 40, .inl v)
  | 51 => .inl (cA 1, 400, .inl v)
  | 52 => .inl (cA 1, 401, .inl v)
  | 53 => .inl (cA 1, 401, .inl v)
  | 54 => .inl (cA 1, 401, .inl v)
  | 55 => .inl (cA 1, 5, .inl v)
  | 56 => .inl (cA 1, 10, .inl v)
  | 57 => .inl (cA 1, 10, .inl v)
  | 58 => .inl (cA 1, 10, .inl v)
  | 59 => .inl (cA 5, 6, .inr (.inr (.inr (.inr r))))
  | 60 => .inl (cA 6, 4, .inr (.inr (.inr (.inr r))))
  | 61 => .inl (cA 0, 400, .inl v)
  | 62 => .inl (cA 1, 2400, .inl v)
  | 63 => .inl (cA 1, 7, .inl v)
  | 64 => .inl (cA 1, 288, .inl v)
  | 65 => .inl (cA 1, 6, .inl v)
  | 66 => .inl (cA 1, 165, .inl v)
  | 67 => .inl (cA 1, 400, .inl v)
  | 68 => .inl (cA 2, 64, .inr (.inl w))
  | 69 => .inl (cA 2, 10, .inr (.inl w))
  | 70 => .inl (cA 1, 201, .inl v)
  | 71 => .inl (cA 1, 8, .inl v)
  | 72 => .inl (cA 1, 1880, .inl v)
  | 73 => .inl (cA 1, 5, .inl v)
  | 74 => .inl (cA 1, 5, .inl v)
  | 75 => .inl (cA 1, 5, .inl v)
  | 76 => .inl (cA 1, 5, .inl v)
  | 77 => .inl (cA 1, 5, .inl v)
  | 78 => .inl (cA 1, 8, .inl v)
  | 79 => .inl (cA 1, 94, .inl v)
  | 80 => .inl (cA 3, 7, .inl v)
  | 81 => .inl (cA 1, 56, .inl v)
  | 82 => .inl (cA 1, 804, .inl v)
  | 83 => .inl (cA 1, 4, .inl v)
  | 84 => .inl (cA 1, 4, .inl v)
  | 85 => .inl (cA 3, 4, .inl v)
  | 86 => .inl (cA 1, 5, .inl v)
  | 87 => .inl (cA 1, 10, .inl v)
  | 88 => .inl (cA 1, 10, .inl v)
  | 89 => .inl (cA 1, 10, .inl v)
  | 90 => .inl (cA 1, 5, .inl v)
  | 91 => .inl (cA 1, 5, .inl v)
  | 92 => .inl (cA 1, 5, .inl v)
  | 93 => .inl (cA 1, 8, .inl v)
  | 94 => .inl (cA 1, 8, .inl v)
  | 95 => .inl (cA 1, 5, .inl v)
  | 96 => .inl (cA 1, 5, .inl v)
  | 97 => .inl (cA 1, 5, .inl v)
  | 98 => .inl (cA 1, 8, .inl v)
  | 99 => .inl (cA 1, 8, .inl v)
  | 100 => .inr (8, Fs8 r v w)
  | 101 => .inr (8, Fs8 r v w)
  | 102 => .inr (8, Fs8 r v w)
  | 103 => .inr (8, Fs8 r v w)
  | 104 => .inr (8, Fs8 r v w)
  | 105 => .inr (8, Fs8 r v w)
  | 106 => .inr (8, Fs8 r v w)
  | 107 => .inl (cA 1, 4, .inl v)
  | 108 => .inl (cA 1, 4, .inl v)
  | 109 => .inl (cA 1, 4, .inl v)
  | 110 => .inl (cA 1, 4, .inl v)
  | 111 => .inl (cA 1, 20, .inl v)
  | 112 => .inl (cA 1, 40, .inl v)
  | 113 => .inl (cA 1, 4, .inl v)
  | 114 => .inl (cA 1, 4, .inl v)
  | 115 => .inl (cA 1, 4, .inl v)
  | 116 => .inl (cA 1, 4, .inl v)
  | 117 => .inl (cA 1, 20, .inl v)
  | 118 => .inl (cA 1, 40, .inl v)
  | 119 => .inl (cA 1, 4, .inl v)
  | 120 => .inl (cA 1, 4, .inl v)
  | 121 => .inl (cA 1, 4, .inl v)
  | 122 => .inl (cA 1, 4, .inl v)
  | 123 => .inl (cA 1, 20, .inl v)
  | 124 => .inl (cA 1, 40, .inl v)
  | 125 => .inl (cA 1, 4, .inl v)
  | 126 => .inl (cA 1, 4, .inl v)
  | 127 => .inl (cA 1, 4, .inl v)
  | 128 => .inl (cA 1, 4, .inl v)
  | 129 => .inl (cA 1, 20, .inl v)
  | 130 => .inl (cA 1, 40, .inl v)
  | 131 => .inl (cA 1, 4, .inl v)
  | 132 => .inl (cA 1, 4, .inl v)
  | 133 => .inl (cA 1, 4, .inl v)
  | 134 => .inl (cA 1, 4, .inl v)
  | 135 => .inl (cA 1, 20, .inl v)
  | 136 => .inl (cA 1, 40, .inl v)
  | 137 => .inl (cA 1, 4, .inl v)
  | 138 => .inl (cA 1, 4, .inl v)
  | 139 => .inl (cA 1, 4, .inl v)
  | 140 => .inl (cA 1, 4, .inl v)
  | 141 => .inl (cA 1, 20, .inl v)
  | 142 => .inl (cA 1, 40, .inl v)
  | 143 => .inl (cA 1, 4, .inl v)
  | 144 => .inl (cA 1, 4, .inl v)
  | 145 => .inl (cA 1, 4, .inl v)
  | 146 => .inl (cA 1, 4, .inl v)
  | 147 => .inl (cA 1, 20, .inl v)
  | 148 => .inl (cA 1, 40, .inl v)
  | _ => .inl (cA 1, 0, .inl v)
/-- what a reference of a cell leads to -/
def fT (t k : Nat) : Option Nat := match t with
  | 0 => match k with | 0 => some 20 | 1 => some 21 | 2 => some 22 | 3 => some 23 | _ => none
  | 1 => match k with | 0 => some 24 | 1 => some 25 | 2 => some 26 | 3 => some 27 | 5 => some 28 | 6 => some 29 | 7 => some 30 | _ => none
  | 2 => match k with | 0 => some 31 | 1 => some 32 | 2 => some 104 | _ => none
  | 3 => match k with | 0 => some 33 | 1 => some 34 | 2 => some 35 | 3 => some 36 | 4 => some 37 | 5 => some 100 | _ => none
  | 4 => match k with | 0 => some 17 | _ => none
  | 5 => match k with | 0 => some 38 | _ => none
  | 6 => match k with | 0 => some 39 | 1 => some 40 | 2 => some 103 | _ => none
  | 7 => match k with | 0 => some 41 | 1 => some 42 | 2 => some 43 | 3 => some 44 | _ => none
  | 8 => match k with | 0 => some 45 | 1 => some 46 | 2 => some 47 | 3 => some 48 | 4 => some 49 | 5 => some 50 | _ => none
  | 9 => match k with | 0 => some 51 | 1 => some 52 | 2 => some 53 | 3 => some 54 | _ => none
  | 10 => match k with | 0 => some 3 | 1 => some 8 | 2 => some 55 | 3 => some 56 | 4 => some 57 | 5 => some 58 | _ => none
  | 11 => match k with | 0 => some 9 | 1 => some 4 | 2 => some 59 | 3 => some 10 | 4 => some 60 | 5 => some 5 | 6 => some 6 | 7 => some 0 | 8 => some 1 | 9 => some 2 | _ => none
  | 12 => match k with | 0 => some 61 | 3 => some 62 | 4 => some 63 | 5 => some 64 | 6 => some 65 | 7 => some 66 | 15 => some 67 | 17 => some 68 | 19 => some 69 | 20 => some 70 | 23 => some 71 | 24 => some 72 | 26 => some 73 | 27 => some 74 | 28 => some 75 | 29 => some 76 | 32 => some 77 | 35 => some 78 | 36 => some 79 | 37 => some 80 | 38 => some 81 | 40 => some 82 | 41 => some 83 | 42 => some 84 | 43 => some 85 | _ => none
  | 13 => match k with | 0 => some 18 | 1 => some 105 | 2 => some 86 | 3 => some 87 | 4 => some 88 | 5 => some 89 | _ => none
  | 14 => match k with | 0 => some 18 | 1 => some 105 | 2 => some 86 | 3 => some 87 | 4 => some 88 | 5 => some 89 | _ => none
  | 15 => match k with | 0 => some 18 | 1 => some 105 | 2 => some 86 | 3 => some 87 | 4 => some 88 | 5 => some 89 | _ => none
  | 16 => match k with | 0 => some 18 | 1 => some 105 | 2 => some 86 | 3 => some 87 | 4 => some 88 | 5 => some 89 | _ => none
  | 17 => match k with | 0 => some 90 | 1 => some 91 | 2 => some 92 | 3 => some 93 | 4 => some 94 | 5 => some 101 | _ => none
  | 18 => match k with | 0 => some 95 | 1 => some 96 | 2 => some 97 | 3 => some 98 | 4 => some 99 | 5 => some 106 | _ => none
  | 38 => if k < 20 then some 102 else none
  | 59 => if k < 6 then some 7 else none
  | 60 => match k with | 0 => some 13 | 1 => some 14 | 2 => some 15 | 3 => some 16 | _ => none
  | 100 => match k with | 0 => some 107 | 1 => some 108 | 2 => some 109 | 3 => some 110 | 4 => some 111 | 5 => some 112 | _ => none
  | 101 => match k with | 0 => some 113 | 1 => some 114 | 2 => some 115 | 3 => some 116 | 4 => some 117 | 5 => some 118 | _ => none
  | 102 => match k with | 0 => some 119 | 1 => some 120 | 2 => some 121 | 3 => some 122 | 4 => some 123 | 5 => some 124 | _ => none
  | 103 => match k with | 0 => some 125 | 1 => some 126 | 2 => some 127 | 3 => some 128 | 4 => some 129 | 5 => some 130 | _ => none
  | 104 => match k with | 0 => some 131 | 1 => some 132 | 2 => some 133 | 3 => some 134 | 4 => some 135 | 5 => some 136 | _ => none
  | 105 => match k with | 0 => some 137 | 1 => some 138 | 2 => some 139 | 3 => some 140 | 4 => some 141 | 5 => some 142 | _ => none
  | 106 => match k with | 0 => some 143 | 1 => some 144 | 2 => some 145 | 3 => some 146 | 4 => some 147 | 5 => some 148 | _ => none
  | _ => none
/-! ===== words: one list for all methods ===== -/
def wsA : List Cond := lw_tbl.filter goodWord
theorem wsA_in {w : Cond} (h : w ∈ wsA) : w ∈ lw_tbl := (List.mem_filter.mp h).1
theorem wsA_good {w : Cond} (h : w ∈ wsA) : (w.onTables && w.keeps) = true ∨ ∃ ty, w = .arrayClass ty := good_of_word (List.mem_filter.mp h).2
theorem wsA_t {w : Cond} (h : w ∈ tables_1) (hg : goodWord w = true) : w ∈ wsA := List.mem_filter.mpr ⟨List.mem_append_right _ h, hg⟩
theorem wsA_p {q : MethodName × Nat} (h : q ∈ lw_privs) : Cond.selects q.1.cls q.1 q.1 ∈ wsA := List.mem_filter.mpr ⟨List.mem_append_left _ (List.mem_map.mpr ⟨q, h, rfl⟩), rfl⟩
theorem gA {w0 : Cond} (h : w0 ∈ wsA) : GoodIn wsA (w0 :: wsA) := fun w hw => by
  rcases List.mem_cons.mp hw with rfl | hw
  · exact ⟨h, wsA_good h⟩
  · exact ⟨hw, wsA_good hw⟩
theorem gAV {own C : String} {idx : Nat} {y : MethodName} {w0 : Cond} (h1 : Cond.methodLink own idx y ∈ wsA) (h2 : Cond.instanceMethod y ∈ wsA) (h3 : Cond.selects C y y ∈ wsA) (h4 : Cond.initialized C ∈ wsA) (h5 : w0 ∈ wsA) : GoodIn wsA (wsV own idx C y (w0 :: wsA)) := fun w hw => by
  rcases List.mem_append.mp hw with hw | hw
  · simp only [List.mem_cons, List.not_mem_nil, or_false] at hw
    rcases hw with rfl | rfl | rfl | rfl
    · exact ⟨h1, wsA_good h1⟩
    · exact ⟨h2, wsA_good h2⟩
    · exact ⟨h3, wsA_good h3⟩
    · exact ⟨h4, wsA_good h4⟩
  · exact gA h5 w hw
theorem gAS {own : String} {idx : Nat} {y : MethodName} {w0 : Cond} (h1 : Cond.methodLink own idx y ∈ wsA) (h2 : Cond.static y ∈ wsA) (h4 : Cond.initialized own ∈ wsA) (h5 : w0 ∈ wsA) : GoodIn wsA (wsS own idx y (w0 :: wsA)) := fun w hw => by
  rcases List.mem_append.mp hw with hw | hw
  · simp only [List.mem_cons, List.not_mem_nil, or_false] at hw
    rcases hw with rfl | rfl | rfl
    · exact ⟨h1, wsA_good h1⟩
    · exact ⟨h2, wsA_good h2⟩
    · exact ⟨h4, wsA_good h4⟩
  · exact gA h5 w hw
/-- what a call of an instance method wants of its tables -/
def MV (C : String) (y : MethodName) (bytes : ByteArray) (maxL : Nat) (ret : Option FieldType) (n : Nat) : Prop := Cond.instanceMethod y ∈ wsA ∧ Cond.selects C y y ∈ wsA ∧ Cond.initialized C ∈ wsA ∧ Cond.code y bytes maxL ret ∈ wsA ∧ (y.cls = C ∧ y.cls ≠ "java/lang/invoke/MethodHandle" ∧ y.cls ≠ "java/lang/invoke/VarHandle" ∧ (parseMethodDescriptor y.desc).map (fun d => d.parameters.length) = some n)
def MS (C : String) (y : MethodName) (bytes : ByteArray) (maxL : Nat) (ret : Option FieldType) (n : Nat) : Prop := Cond.static y ∈ wsA ∧ Cond.initialized C ∈ wsA ∧ Cond.code y bytes maxL ret ∈ wsA ∧ (y.cls = C ∧ y.cls ≠ "java/lang/invoke/MethodHandle" ∧ y.cls ≠ "java/lang/invoke/VarHandle" ∧ (parseMethodDescriptor y.desc).map (fun d => d.parameters.length) = some n)
def MI (y : MethodName) (bytes : ByteArray) (maxL : Nat) (n : Nat) : Prop := Cond.instanceMethod y ∈ wsA ∧ Cond.initialized y.cls ∈ wsA ∧ Cond.code y bytes maxL none ∈ wsA ∧ y.name = "<init>" ∧ (y.cls ≠ "java/lang/invoke/MethodHandle" ∧ y.cls ≠ "java/lang/invoke/VarHandle" ∧ (parseMethodDescriptor y.desc).map (fun d => d.parameters.length) = some n)
/-! ===== typed pools ===== -/
abbrev Sg : Type := Nat → Nat → Int32
abbrev Lg : Type := Nat → Nat → Int64
abbrev Rg : Type := Nat → Nat → Option Nat
def up2 {α : Type} (f : Nat → Nat → α) (a j : Nat) (x : α) : Nat → Nat → α := va_up f a (va_up (f a) j x)
theorem up2_same {α : Type} (f : Nat → Nat → α) (a j : Nat) (x : α) : up2 f a j x a j = x := by simp [up2, va_up]
theorem up2_nej {α : Type} (f : Nat → Nat → α) {a j b k : Nat} (x : α) (h : k ≠ j) : up2 f a j x b k = f b k := by
  unfold up2
  by_cases hb : b = a
  · subst hb; simp [va_up, h]
  · simp [va_up, hb]
theorem up2_nea {α : Type} (f : Nat → Nat → α) {a j b k : Nat} (x : α) (h : b ≠ a) : up2 f a j x b k = f b k := by simp [up2, va_up, h]
def cel (cA : Nat → ClassId) (T : Nat → Nat) (r : Rg) (σ : Sg) (ρ : Lg) : Nat → va_E := fun a => shp cA (T a) (r a) (σ a) (ρ a)
def TP (D : va_G) (cA : Nat → ClassId) (L : List Nat) (T : Nat → Nat) (r : Rg) (σ : Sg) (ρ : Lg) (H : Heap) : Prop := va_P D vwCl (va_pl L (cel cA T r σ ρ)) H
def WT (L : List Nat) (rng : Nat → Nat → Int × Int) (T : Nat → Nat) (σ : Sg) : Prop := ∀ a ∈ L, ∀ j : Nat, (rng (T a) j).1 ≤ (σ a j).toInt ∧ (σ a j).toInt ≤ (rng (T a) j).2
def md (ms : List (Nat × Nat)) (t j : Nat) : Prop := (t, j) ∈ ms ∨ (t, 1000) ∈ ms
def FR (ms : List (Nat × Nat)) (T : Nat → Nat) (σ0 σ : Sg) : Prop := ∀ b j : Nat, ¬ md ms (T b) j → σ b j = σ0 b j
def GR (L : List Nat) (T : Nat → Nat) (r : Rg) : Prop := ∀ a ∈ L, ∀ k t : Nat, fT (T a) k = some t → ∃ b : Nat, r a k = some b ∧ b ∈ L ∧ T b = t
def LA (A : Nat → Prop) (L : List Nat) : Prop := L.Nodup ∧ ∀ a ∈ L, A a
def dm (L : List Nat) (sz : Nat) : Nat → Prop := fun q => q ∈ L ∨ sz ≤ q
abbrev tyA (cA : Nat → ClassId) : List (ClassId × FieldType) := [(cA 0, .byte), (cA 1, .int), (cA 2, .long), (cA 3, .boolean), (cA 4, .object RX8), (cA 5, .object RX7), (cA 6, .object RX10)]
def TS (D : va_G) (cA : Nat → ClassId) (L : List Nat) (T : Nat → Nat) (r : Rg) (rng : Nat → Nat → Int × Int) (ms : List (Nat × Nat)) (σ0 σ : Sg) (ρ : Lg) (H : Heap) : Prop := TP D cA L T r σ ρ H ∧ WT L rng T σ ∧ FR ms T σ0 σ
theorem FR.rf {ms : List (Nat × Nat)} {T : Nat → Nat} {σ : Sg} : FR ms T σ σ := fun _ _ _ => rfl
theorem FR.tr {ms ms' : List (Nat × Nat)} {T : Nat → Nat} {σ0 σ σ1 : Sg} (h : FR ms T σ0 σ) (h1 : FR ms' T σ σ1) (hs : ∀ q ∈ ms', q ∈ ms) : FR ms T σ0 σ1 := fun b j hb => (h1 b j (fun hm => hb (hm.elim (fun z => Or.inl (hs _ z)) (fun z => Or.inr (hs _ z))))).trans (h b j hb)
theorem LA.D {A : Nat → Prop} {L : List Nat} (h : LA A L) (f : Nat → va_E) : va_D A (va_pl L f) := by
  refine ⟨fun i j x y hx hy hxy => ?_, fun k q hk => ?_⟩
  · simp only [va_pl, List.getElem?_map, Option.map_eq_some_iff] at hx hy
    obtain ⟨a, ha, rfl⟩ := hx
    obtain ⟨b, hb, rfl⟩ := hy
    have hab : a = b := hxy
    subst hab
    exact (List.getElem?_inj (List.getElem?_eq_some_iff.mp ha).1 h.1).mp (ha.trans hb.symm)
  · simp only [va_pl, List.getElem?_map, Option.map_eq_some_iff] at hk
    obtain ⟨a, ha, rfl⟩ := hk
    exact h.2 a (List.mem_of_getElem? ha)
theorem TP.at {D : va_G} {cA : Nat → ClassId} {L : List Nat} {T : Nat → Nat} {r : Rg} {σ : Sg} {ρ : Lg} {H : Heap} {a t : Nat} {e0 : va_E} (_ : TP D cA L T r σ ρ H) (ha : a ∈ L) (ht : T a = t) (hs : shp cA t (r a) (σ a) (ρ a) = e0) : ∃ k : Nat, (va_pl L (cel cA T r σ ρ))[k]? = some (a, e0) := by
  obtain ⟨k, hk⟩ := va_pl_get (X := []) (f := cel cA T r σ ρ) ha
  refine ⟨k, ?_⟩
  have h2 : cel cA T r σ ρ a = e0 := by unfold cel; rw [ht]; exact hs
  rw [← h2]
  exact hk
theorem cel_up {cA : Nat → ClassId} {T : Nat → Nat} {r : Rg} {σ : Sg} {ρ : Lg} {a t k : Nat} {x : Int32} {e1 : va_E} (ht : T a = t) (h : shp cA t (r a) (va_up (σ a) k x) (ρ a) = e1) : va_up (cel cA T r σ ρ) a e1 = cel cA T r (up2 σ a k x) ρ := by
  funext b
  by_cases hb : b = a
  · subst hb; simp [va_up, cel, up2, ht] at h ⊢; exact h.symm
  · simp [va_up, cel, up2, hb]
theorem cel_upA {cA : Nat → ClassId} {T : Nat → Nat} {r : Rg} {σ : Sg} {ρ : Lg} {a t : Nat} {v : Nat → Int32} {e1 : va_E} (ht : T a = t) (h : shp cA t (r a) v (ρ a) = e1) : va_up (cel cA T r σ ρ) a e1 = cel cA T r (va_up σ a v) ρ := by
  funext b
  by_cases hb : b = a
  · subst hb; simp [va_up, cel, ht]; exact h.symm
  · simp [va_up, cel, hb]
theorem cel_upL {cA : Nat → ClassId} {T : Nat → Nat} {r : Rg} {σ : Sg} {ρ : Lg} {a t k : Nat} {x : Int64} {e1 : va_E} (ht : T a = t) (h : shp cA t (r a) (σ a) (va_up (ρ a) k x) = e1) : va_up (cel cA T r σ ρ) a e1 = cel cA T r σ (up2 ρ a k x) := by
  funext b
  by_cases hb : b = a
  · subst hb; simp [va_up, cel, up2, ht] at h ⊢; exact h.symm
  · simp [va_up, cel, up2, hb]
theorem TP.put {D : va_G} {cA : Nat → ClassId} {A : Nat → Prop} {L : List Nat} {T : Nat → Nat} {r r1 : Rg} {σ σ1 : Sg} {ρ ρ1 : Lg} {H1 : Heap} {a q0 : Nat} {e0 e1 : va_E} (hL : LA A L) (ha : a ∈ L) (hq : (va_pl L (cel cA T r σ ρ))[q0]? = some (a, e0)) (he : cel cA T r σ ρ a = e0) (hu : va_up (cel cA T r σ ρ) a e1 = cel cA T r1 σ1 ρ1) (h : va_P D vwCl ((va_pl L (cel cA T r σ ρ)).set q0 (a, e1)) H1) : TP D cA L T r1 σ1 ρ1 H1 := by
  have h2 := va_pl_set (X := []) (e := e1) (hL.D (cel cA T r σ ρ)) ha (by rw [he]; exact hq)
  have h3 : (va_pl L (cel cA T r σ ρ)).set q0 (a, e1) = va_pl L (va_up (cel cA T r σ ρ) a e1) := h2
  rw [h3, hu] at h
  exact h
theorem WT.put {L : List Nat} {rng : Nat → Nat → Int × Int} {T : Nat → Nat} {σ : Sg} {a t k : Nat} {x : Int32} (h : WT L rng T σ) (ht : T a = t) (h1 : (rng t k).1 ≤ x.toInt) (h2 : x.toInt ≤ (rng t k).2) : WT L rng T (up2 σ a k x) := by
  intro b hb j
  by_cases hba : b = a
  · subst hba
    by_cases hj : j = k
    · subst hj; rw [up2_same, ht]; exact ⟨h1, h2⟩
    · rw [up2_nej _ _ hj]; exact h b hb j
  · rw [up2_nea _ _ hba]; exact h b hb j
theorem FR.put {ms : List (Nat × Nat)} {T : Nat → Nat} {σ0 σ : Sg} {a t k : Nat} {x : Int32} (h : FR ms T σ0 σ) (ht : T a = t) (hm : md ms t k) : FR ms T σ0 (up2 σ a k x) := by
  intro b j hb
  by_cases hba : b = a
  · subst hba
    by_cases hj : j = k
    · subst hj; rw [ht] at hb; exact absurd hm hb
    · rw [up2_nej _ _ hj]; exact h b j hb
  · rw [up2_nea _ _ hba]; exact h b j hb
/-- an int field: get and put -/
def FI (t k : Nat) (C : String) (TT : u_T) (ty : FieldType) : Prop := ∃ (ci N : Nat) (Fs : (Nat → Option Nat) → (Nat → Int32) → (Nat → Int64) → List Value) (ty0 : Nat → FieldType), (∀ cA r v w, shp cA t r v w = .inr (ci, Fs r v w)) ∧ vwCl[ci]? = some (C, TT, N) ∧ k < N ∧ (∀ w ∈ u_ws C TT N, w ∈ wsA) ∧ (∀ k, k < N → parseFieldDescriptor (TT k).2.2.1 = some (ty0 k)) ∧ (∀ a, a < N → ∀ b, b < N → a ≠ b → (TT a).2.1 ≠ (TT b).2.1) ∧ (∀ r v w, (Fs r v w)[k]? = some (.int (v k))) ∧ (∀ r v w x, Fs r (va_up v k x) w = (Fs r v w).set k (.int x)) ∧ parseFieldDescriptor (TT k).2.2.1 = some ty ∧ (∀ r v w, k < (Fs r v w).length) ∧ (TT k).2.2.2 = false
/-- a reference field: get (and put, in a constructor) -/
def FQ (t k : Nat) (C : String) (TT : u_T) (ty : FieldType) : Prop := ∃ (ci N : Nat) (Fs : (Nat → Option Nat) → (Nat → Int32) → (Nat → Int64) → List Value) (ty0 : Nat → FieldType), (∀ cA r v w, shp cA t r v w = .inr (ci, Fs r v w)) ∧ vwCl[ci]? = some (C, TT, N) ∧ k < N ∧ (∀ w ∈ u_ws C TT N, w ∈ wsA) ∧ (∀ k, k < N → parseFieldDescriptor (TT k).2.2.1 = some (ty0 k)) ∧ (∀ a, a < N → ∀ b, b < N → a ≠ b → (TT a).2.1 ≠ (TT b).2.1) ∧ (∀ r v w, (Fs r v w)[k]? = some (va_rf (r k))) ∧ (∀ r v w x, Fs (va_up r k x) v w = (Fs r v w).set k (va_rf x)) ∧ parseFieldDescriptor (TT k).2.2.1 = some ty ∧ (∀ r v w, k < (Fs r v w).length) ∧ (TT k).2.2.2 = true
/-- a long field -/
def FL (t k : Nat) (C : String) (TT : u_T) : Prop := ∃ (ci N : Nat) (Fs : (Nat → Option Nat) → (Nat → Int32) → (Nat → Int64) → List Value) (ty0 : Nat → FieldType), (∀ cA r v w, shp cA t r v w = .inr (ci, Fs r v w)) ∧ vwCl[ci]? = some (C, TT, N) ∧ k < N ∧ (∀ w ∈ u_ws C TT N, w ∈ wsA) ∧ (∀ k, k < N → parseFieldDescriptor (TT k).2.2.1 = some (ty0 k)) ∧ (∀ a, a < N → ∀ b, b < N → a ≠ b → (TT a).2.1 ≠ (TT b).2.1) ∧ (∀ r v w, (Fs r v w)[k]? = some (.long (w k))) ∧ (∀ r v w x, Fs r v (va_up w k x) = (Fs r v w).set k (.long x)) ∧ parseFieldDescriptor (TT k).2.2.1 = some .long ∧ (∀ r v w, k < (Fs r v w).length) ∧ (TT k).2.2.2 = false
/-- arrays by their tags: of ints (bytes, booleans), of longs, of references -/
def AI (t ki n : Nat) : Prop := ∀ cA r v w, shp cA t r v w = .inl (cA ki, n, .inl v)
def AJ (t n : Nat) : Prop := ∀ cA r v w, shp cA t r v w = .inl (cA 2, n, .inr (.inl w))
def AQ (t ki n t' : Nat) : Prop := (∀ cA r v w, shp cA t r v w = .inl (cA ki, n, .inr (.inr (.inr (.inr r))))) ∧ ∀ k, k < n → fT t k = some t'
def AR (t ki n : Nat) : Prop := ∀ cA r v w, shp cA t r v w = .inl (cA ki, n, .inr (.inr (.inr (.inr r))))
/-- the words of nests, the classes of reference arrays -/
def NW (U : State) : Prop := (∀ q ∈ nwL, va_Nw (.methodLinkNest q.1 q.2.1 q.2.2.1 q.2.2.2) U) ∧ va_AO RX8 U ∧ va_AO RX7 U ∧ va_AO RX10 U
theorem NW.same {u U : State} (h : u.vm = U.vm) (hN : NW u) : NW U := ⟨fun q hq => va_Nw.same rfl h (hN.1 q hq), va_AO.moved (by rw [h]; exact Vm.Alike.refl _) hN.2.1, va_AO.moved (by rw [h]; exact Vm.Alike.refl _) hN.2.2.1, va_AO.moved (by rw [h]; exact Vm.Alike.refl _) hN.2.2.2⟩
theorem NW.warm {s U : State} (hW : s.WarmedH U.vm) (hN : NW s) : NW U := ⟨fun q hq => va_Nw.warmM hW (hN.1 q hq), va_AO.moved hW.alike hN.2.1, va_AO.moved hW.alike hN.2.2.1, va_AO.moved hW.alike hN.2.2.2⟩
abbrev PR (D : va_G) (cA : Nat → ClassId) (L : List Nat) (T : Nat → Nat) (r : Rg) (σ : Sg) (ρ : Lg) (sz : Nat) (av : List Value) : Array Value → State → Prop := va_Pc av (fun U => U.heap.size = sz ∧ TP D cA L T r σ ρ U.heap ∧ va_K D vwCl (tyA cA) U ∧ NW U)
abbrev QI (D : va_G) (cA : Nat → ClassId) (L : List Nat) (T : Nat → Nat) (r : Rg) (rng : Nat → Nat → Int × Int) (ms : List (Nat × Nat)) (σ : Sg) (sz : Nat) (po : Int32 → Sg → Prop) : Array Value → State → Outcome → State → Prop := va_Qi (fun (x : Int32) (u : Sg × Lg) => WT L rng T u.1 ∧ FR ms T σ u.1 ∧ po x u.1) (fun u t => TP D cA L T r u.1 u.2 t.heap) (dm L sz)
abbrev QL (D : va_G) (cA : Nat → ClassId) (L : List Nat) (T : Nat → Nat) (r : Rg) (rng : Nat → Nat → Int × Int) (ms : List (Nat × Nat)) (σ : Sg) (sz : Nat) (po : Int64 → Sg → Prop) : Array Value → State → Outcome → State → Prop := va_Ql (fun (x : Int64) (u : Sg × Lg) => WT L rng T u.1 ∧ FR ms T σ u.1 ∧ po x u.1) (fun u t => TP D cA L T r u.1 u.2 t.heap) (dm L sz)
abbrev QV (D : va_G) (cA : Nat → ClassId) (L : List Nat) (T : Nat → Nat) (r : Rg) (rng : Nat → Nat → Int × Int) (ms : List (Nat × Nat)) (σ : Sg) (sz : Nat) (po : Sg → Prop) : Array Value → State → Outcome → State → Prop := va_Qv (fun (u : Sg × Lg) => WT L rng T u.1 ∧ FR ms T σ u.1 ∧ po u.1) (fun u t => TP D cA L T r u.1 u.2 t.heap) (dm L sz)
theorem PR.blind {D : va_G} {cA : Nat → ClassId} {L : List Nat} {T : Nat → Nat} {r : Rg} {σ : Sg} {ρ : Lg} {sz : Nat} {av : List Value} : FrameBlind (PR D cA L T r σ ρ sz av) := fun a U g mk q => by
  obtain ⟨q0, q1, qP, qK, qN⟩ := q
  exact ⟨q0, q1, qP, va_K.moved (u := U) (U := U.calling g mk a) (Vm.Alike.refl U.vm) qK, NW.same (u := U) (U := U.calling g mk a) rfl qN⟩
theorem pS {D : va_G} {cA : Nat → ClassId} {L : List Nat} {T : Nat → Nat} {r : Rg} {σ : Sg} {ρ : Lg} {av : List Value} {s : State} {H : Heap} (hP : TP D cA L T r σ ρ H) (hK : va_K D vwCl (tyA cA) s) (hN : NW s) : PreS s H (PR D cA L T r σ ρ H.size av) av :=
  ⟨PR.blind, fun U hU hW => ⟨rfl, by rw [hU], by rw [hU]; exact hP, va_K.moved hW.alike hK, hN.warm hW⟩⟩
theorem pV {D : va_G} {cA : Nat → ClassId} {L : List Nat} {T : Nat → Nat} {r : Rg} {σ : Sg} {ρ : Lg} {av : List Value} {s : State} {H : Heap} {b t ci N : Nat} {C : String} {TT : u_T} {fs : List Value} (hP : TP D cA L T r σ ρ H) (hK : va_K D vwCl (tyA cA) s) (hN : NW s) (hb : b ∈ L) (ht : T b = t) (hs : shp cA t (r b) (σ b) (ρ b) = .inr (ci, fs)) (hc : vwCl[ci]? = some (C, TT, N)) : PreV s H C b (PR D cA L T r σ ρ H.size (.ref b :: av)) av := by
  obtain ⟨k, hk⟩ := hP.at hb ht hs
  exact ⟨PR.blind, va_recv hK hP hc hk, fun U hU hW => ⟨rfl, by rw [hU], by rw [hU]; exact hP, va_K.moved hW.alike hK, hN.warm hW⟩⟩
section TY
variable {p : Program} {l : Launch} {e : Env} {R : Room} {s : State} {m : MethodId} {args : Array Value} {below : List Frame} {meth : Method} {c : Code} {H H0 : Heap} {locs : List Loc} {cells slots : Nat} {Q : State → Prop} {pc : Nat} {ls : Array Slot} {rest : List Value} {cc : ByteArray} {A : Nat → Prop} {D : va_G} {cA : Nat → ClassId} {L : List Nat} {T : Nat → Nat} {r : Rg} {σ0 σ : Sg} {ρ : Lg} {rng : Nat → Nat → Int × Int} {ms : List (Nat × Nat)} {a t k : Nat} {own C : String} {TT : u_T} {index : Nat}
/-- getfield of a reference -/
theorem t_gr {ty : FieldType} {t' : Nat} (hx : p.tables.exec = Jvm.exec) (hb : c.code = cc) (hts : ∀ w ∈ wsA, w.before args s = true) (hown : s.vm.findClass own = some m.cls) (hK : va_K D vwCl (tyA cA) s) (hG : GR L T r) (hB : TS D cA L T r rng ms σ0 σ ρ H) (ha : a ∈ L) (ht : T a = t) (fq : FQ t k C TT ty) (hf : fT t k = some t') (hl : Cond.fieldLink own index (TT k).1 (TT k).2.1 (TT k).2.2.1 ∈ wsA) (hdg : decode cc pc = .ok (.getfield index, 3))
    (kk : ∀ b : Nat, r a k = some b → b ∈ L → T b = t' → W p l e R s m args below meth c H locs cells slots Q (F0 m (pc + 3) ls (.ref b :: rest))) : W p l e R s m args below meth c H locs cells slots Q (F0 m pc ls (.ref a :: rest)) := by
  obtain ⟨ci, N, Fs, ty0, h1, h2, h3, h4, h5, h6, h7, -⟩ := fq
  obtain ⟨b, g1, g2, g3⟩ := hG a ha k t' (by rw [ht]; exact hf)
  obtain ⟨q0, hq⟩ := hB.1.at ha ht (h1 cA (r a) (σ a) (ρ a))
  exact va_get hx hb hts h4 hown hK hB.1 q0 hq h2 k h3 (hts _ hl) (fun _ h => h) (v := .ref b) (by rw [h7, g1]; rfl) hdg (kk b g1 g2 g3)
/-- getfield of a reference that was got before -/
theorem t_gk {ty : FieldType} {b : Nat} (hx : p.tables.exec = Jvm.exec) (hb : c.code = cc) (hts : ∀ w ∈ wsA, w.before args s = true) (hown : s.vm.findClass own = some m.cls) (hK : va_K D vwCl (tyA cA) s) (hB : TS D cA L T r rng ms σ0 σ ρ H) (ha : a ∈ L) (ht : T a = t) (fq : FQ t k C TT ty) (hr : r a k = some b) (hl : Cond.fieldLink own index (TT k).1 (TT k).2.1 (TT k).2.2.1 ∈ wsA) (hdg : decode cc pc = .ok (.getfield index, 3))
    (kk : W p l e R s m args below meth c H locs cells slots Q (F0 m (pc + 3) ls (.ref b :: rest))) : W p l e R s m args below meth c H locs cells slots Q (F0 m pc ls (.ref a :: rest)) := by
  obtain ⟨ci, N, Fs, ty0, h1, h2, h3, h4, h5, h6, h7, -⟩ := fq
  obtain ⟨q0, hq⟩ := hB.1.at ha ht (h1 cA (r a) (σ a) (ρ a))
  exact va_get hx hb hts h4 hown hK hB.1 q0 hq h2 k h3 (hts _ hl) (fun _ h => h) (v := .ref b) (by rw [h7, hr]; rfl) hdg kk
/-- getfield of an int -/
theorem t_gi {ty : FieldType} {lo hi : Int} (hx : p.tables.exec = Jvm.exec) (hb : c.code = cc) (hts : ∀ w ∈ wsA, w.before args s = true) (hown : s.vm.findClass own = some m.cls) (hK : va_K D vwCl (tyA cA) s) (hB : TS D cA L T r rng ms σ0 σ ρ H) (ha : a ∈ L) (ht : T a = t) (fi : FI t k C TT ty) (hrg : rng t k = (lo, hi)) (hl : Cond.fieldLink own index (TT k).1 (TT k).2.1 (TT k).2.2.1 ∈ wsA) (hdg : decode cc pc = .ok (.getfield index, 3))
    (kk : ∀ x : Int32, x = σ a k → lo ≤ x.toInt → x.toInt ≤ hi → W p l e R s m args below meth c H locs cells slots Q (F0 m (pc + 3) ls (.int x :: rest))) : W p l e R s m args below meth c H locs cells slots Q (F0 m pc ls (.ref a :: rest)) := by
  obtain ⟨ci, N, Fs, ty0, h1, h2, h3, h4, h5, h6, h7, -⟩ := fi
  obtain ⟨q0, hq⟩ := hB.1.at ha ht (h1 cA (r a) (σ a) (ρ a))
  have hw := hB.2.1 a ha k
  rw [ht, hrg] at hw
  exact va_get hx hb hts h4 hown hK hB.1 q0 hq h2 k h3 (hts _ hl) (fun _ h => h) (h7 _ _ _) hdg (kk (σ a k) rfl hw.1 hw.2)
/-- getfield of an int that is known -/
theorem t_gv {ty : FieldType} {x : Int32} (hx : p.tables.exec = Jvm.exec) (hb : c.code = cc) (hts : ∀ w ∈ wsA, w.before args s = true) (hown : s.vm.findClass own = some m.cls) (hK : va_K D vwCl (tyA cA) s) (hB : TS D cA L T r rng ms σ0 σ ρ H) (ha : a ∈ L) (ht : T a = t) (fi : FI t k C TT ty) (hv : σ a k = x) (hl : Cond.fieldLink own index (TT k).1 (TT k).2.1 (TT k).2.2.1 ∈ wsA) (hdg : decode cc pc = .ok (.getfield index, 3))
    (kk : W p l e R s m args below meth c H locs cells slots Q (F0 m (pc + 3) ls (.int x :: rest))) : W p l e R s m args below meth c H locs cells slots Q (F0 m pc ls (.ref a :: rest)) := by
  obtain ⟨ci, N, Fs, ty0, h1, h2, h3, h4, h5, h6, h7, -⟩ := fi
  obtain ⟨q0, hq⟩ := hB.1.at ha ht (h1 cA (r a) (σ a) (ρ a))
  exact va_get hx hb hts h4 hown hK hB.1 q0 hq h2 k h3 (hts _ hl) (fun _ h => h) (by rw [h7, hv]) hdg kk
/-- putfield of an int -/
theorem t_pi {ty : FieldType} {lo hi : Int} {x : Int32} (hx : p.tables.exec = Jvm.exec) (hb : c.code = cc) (hts : ∀ w ∈ wsA, w.before args s = true) (hown : s.vm.findClass own = some m.cls) (hK : va_K D vwCl (tyA cA) s) (hL : LA A L) (hB : TS D cA L T r rng ms σ0 σ ρ H) (hS : va_S A H0 H locs) (ha : a ∈ L) (ht : T a = t) (fi : FI t k C TT ty) (hn : narrow ty (.int x) = .int x) (hfit : fits ty (.int x) = true) (hrg : rng t k = (lo, hi)) (h1 : lo ≤ x.toInt) (h2 : x.toInt ≤ hi) (hm : md ms t k) (hl : Cond.fieldLink own index (TT k).1 (TT k).2.1 (TT k).2.2.1 ∈ wsA) (hdg : decode cc pc = .ok (.putfield index, 3))
    (kk : ∀ (H1 : Heap) (locs1 : List Loc) (σ1 : Sg), σ1 = up2 σ a k x → TS D cA L T r rng ms σ0 σ1 ρ H1 → va_S A H0 H1 locs1 → W p l e R s m args below meth c H1 locs1 cells slots Q (F0 m (pc + 3) ls rest)) : W p l e R s m args below meth c H locs cells slots Q (F0 m pc ls (.int x :: .ref a :: rest)) := by
  obtain ⟨ci, N, Fs, ty0, f1, f2, f3, f4, f5, f6, f7, f8, f9, f10, f11⟩ := fi
  obtain ⟨q0, hq⟩ := hB.1.at ha ht (f1 cA (r a) (σ a) (ρ a))
  have he : cel cA T r σ ρ a = .inr (ci, Fs (r a) (σ a) (ρ a)) := by unfold cel; rw [ht, f1]
  refine va_put hx hb hts f4 ty0 f5 f6 hown hK hB.1 (hL.D _) hS q0 hq f2 k f3 (hts _ hl) (fun _ h => h) f11 f9 hn hfit (f10 _ _ _) hdg (fun H1 locs1 hP1 _ hS1 => ?_)
  refine kk H1 locs1 _ rfl ⟨?_, hB.2.1.put ht (by rw [hrg]; exact h1) (by rw [hrg]; exact h2), hB.2.2.put ht hm⟩ hS1
  exact TP.put hL ha hq he (cel_up (k := k) (x := x) ht (by rw [f1, f8])) hP1
/-- getfield, putfield of a long -/
theorem t_gl (hx : p.tables.exec = Jvm.exec) (hb : c.code = cc) (hts : ∀ w ∈ wsA, w.before args s = true) (hown : s.vm.findClass own = some m.cls) (hK : va_K D vwCl (tyA cA) s) (hB : TS D cA L T r rng ms σ0 σ ρ H) (ha : a ∈ L) (ht : T a = t) (fl : FL t k C TT) (hl : Cond.fieldLink own index (TT k).1 (TT k).2.1 (TT k).2.2.1 ∈ wsA) (hdg : decode cc pc = .ok (.getfield index, 3))
    (kk : ∀ x : Int64, x = ρ a k → W p l e R s m args below meth c H locs cells slots Q (F0 m (pc + 3) ls (.long x :: rest))) : W p l e R s m args below meth c H locs cells slots Q (F0 m pc ls (.ref a :: rest)) := by
  obtain ⟨ci, N, Fs, ty0, h1, h2, h3, h4, h5, h6, h7, -⟩ := fl
  obtain ⟨q0, hq⟩ := hB.1.at ha ht (h1 cA (r a) (σ a) (ρ a))
  exact va_get hx hb hts h4 hown hK hB.1 q0 hq h2 k h3 (hts _ hl) (fun _ h => h) (h7 _ _ _) hdg (kk (ρ a k) rfl)
theorem t_pl {x : Int64} (hx : p.tables.exec = Jvm.exec) (hb : c.code = cc) (hts : ∀ w ∈ wsA, w.before args s = true) (hown : s.vm.findClass own = some m.cls) (hK : va_K D vwCl (tyA cA) s) (hL : LA A L) (hB : TS D cA L T r rng ms σ0 σ ρ H) (hS : va_S A H0 H locs) (ha : a ∈ L) (ht : T a = t) (fl : FL t k C TT) (hl : Cond.fieldLink own index (TT k).1 (TT k).2.1 (TT k).2.2.1 ∈ wsA) (hdg : decode cc pc = .ok (.putfield index, 3))
    (kk : ∀ (H1 : Heap) (locs1 : List Loc) (ρ1 : Lg), ρ1 = up2 ρ a k x → TS D cA L T r rng ms σ0 σ ρ1 H1 → va_S A H0 H1 locs1 → W p l e R s m args below meth c H1 locs1 cells slots Q (F0 m (pc + 3) ls rest)) : W p l e R s m args below meth c H locs cells slots Q (F0 m pc ls (.long x :: .ref a :: rest)) := by
  obtain ⟨ci, N, Fs, ty0, f1, f2, f3, f4, f5, f6, f7, f8, f9, f10, f11⟩ := fl
  obtain ⟨q0, hq⟩ := hB.1.at ha ht (f1 cA (r a) (σ a) (ρ a))
  have he : cel cA T r σ ρ a = .inr (ci, Fs (r a) (σ a) (ρ a)) := by unfold cel; rw [ht, f1]
  refine va_put hx hb hts f4 ty0 f5 f6 hown hK hB.1 (hL.D _) hS q0 hq f2 k f3 (hts _ hl) (fun _ h => h) f11 f9 rfl rfl (f10 _ _ _) hdg (fun H1 locs1 hP1 _ hS1 => ?_)
  refine kk H1 locs1 _ rfl ⟨?_, hB.2.1, hB.2.2⟩ hS1
  exact TP.put hL ha hq he (cel_upL (k := k) (x := x) ht (by rw [f1, f8])) hP1
/-- loads -/
theorem t_ai {lo hi : Int} {n : Nat} {i : Int32} (hx : p.tables.exec = Jvm.exec) (hb : c.code = cc) (hK : va_K D vwCl (tyA cA) s) (hB : TS D cA L T r rng ms σ0 σ ρ H) (ha : a ∈ L) (ht : T a = t) (ai : AI t 1 n) (hrg : ∀ j, rng t j = (lo, hi)) (hin : vp_in i n) (hdg : decode cc pc = .ok (.iaload, 1))
    (kk : ∀ x : Int32, x = σ a i.toNatClampNeg → lo ≤ x.toInt → x.toInt ≤ hi → W p l e R s m args below meth c H locs cells slots Q (F0 m (pc + 1) ls (.int x :: rest))) : W p l e R s m args below meth c H locs cells slots Q (F0 m pc ls (.int i :: .ref a :: rest)) := by
  obtain ⟨q0, hq⟩ := hB.1.at ha ht (ai cA (r a) (σ a) (ρ a))
  have hw := hB.2.1 a ha i.toNatClampNeg
  rw [ht, hrg] at hw
  exact va_iald hx hb hK hB.1 q0 1 hq rfl hin hdg (kk _ rfl hw.1 hw.2)
theorem t_aj {n : Nat} {i : Int32} (hx : p.tables.exec = Jvm.exec) (hb : c.code = cc) (hK : va_K D vwCl (tyA cA) s) (hB : TS D cA L T r rng ms σ0 σ ρ H) (ha : a ∈ L) (ht : T a = t) (ai : AI t 1 n) (hin : vp_in i n) (hdg : decode cc pc = .ok (.iaload, 1))
    (kk : ∀ x : Int32, x = σ a i.toNatClampNeg → (rng t i.toNatClampNeg).1 ≤ x.toInt → x.toInt ≤ (rng t i.toNatClampNeg).2 → W p l e R s m args below meth c H locs cells slots Q (F0 m (pc + 1) ls (.int x :: rest))) : W p l e R s m args below meth c H locs cells slots Q (F0 m pc ls (.int i :: .ref a :: rest)) := by
  obtain ⟨q0, hq⟩ := hB.1.at ha ht (ai cA (r a) (σ a) (ρ a))
  have hw := hB.2.1 a ha i.toNatClampNeg
  rw [ht] at hw
  exact va_iald hx hb hK hB.1 q0 1 hq rfl hin hdg (kk _ rfl hw.1 hw.2)
theorem t_ab {lo hi : Int} {n : Nat} {i : Int32} (hx : p.tables.exec = Jvm.exec) (hb : c.code = cc) (hK : va_K D vwCl (tyA cA) s) (hB : TS D cA L T r rng ms σ0 σ ρ H) (ha : a ∈ L) (ht : T a = t) (ai : AI t 0 n) (hrg : ∀ j, rng t j = (lo, hi)) (hin : vp_in i n) (hdg : decode cc pc = .ok (.baload, 1))
    (kk : ∀ x : Int32, x = σ a i.toNatClampNeg → lo ≤ x.toInt → x.toInt ≤ hi → W p l e R s m args below meth c H locs cells slots Q (F0 m (pc + 1) ls (.int x :: rest))) : W p l e R s m args below meth c H locs cells slots Q (F0 m pc ls (.int i :: .ref a :: rest)) := by
  obtain ⟨q0, hq⟩ := hB.1.at ha ht (ai cA (r a) (σ a) (ρ a))
  have hw := hB.2.1 a ha i.toNatClampNeg
  rw [ht, hrg] at hw
  exact va_bald hx hb hK hB.1 q0 0 hq rfl hin hdg (kk _ rfl hw.1 hw.2)
theorem t_az {lo hi : Int} {n : Nat} {i : Int32} (hx : p.tables.exec = Jvm.exec) (hb : c.code = cc) (hK : va_K D vwCl (tyA cA) s) (hB : TS D cA L T r rng ms σ0 σ ρ H) (ha : a ∈ L) (ht : T a = t) (ai : AI t 3 n) (hrg : ∀ j, rng t j = (lo, hi)) (hin : vp_in i n) (hdg : decode cc pc = .ok (.baload, 1))
    (kk : ∀ x : Int32, x = σ a i.toNatClampNeg → lo ≤ x.toInt → x.toInt ≤ hi → W p l e R s m args below meth c H locs cells slots Q (F0 m (pc + 1) ls (.int x :: rest))) : W p l e R s m args below meth c H locs cells slots Q (F0 m pc ls (.int i :: .ref a :: rest)) := by
  obtain ⟨q0, hq⟩ := hB.1.at ha ht (ai cA (r a) (σ a) (ρ a))
  have hw := hB.2.1 a ha i.toNatClampNeg
  rw [ht, hrg] at hw
  exact va_zald hx hb hK hB.1 q0 3 hq rfl hin hdg (kk _ rfl hw.1 hw.2)
theorem t_al {n : Nat} {i : Int32} (hx : p.tables.exec = Jvm.exec) (hb : c.code = cc) (hK : va_K D vwCl (tyA cA) s) (hB : TS D cA L T r rng ms σ0 σ ρ H) (ha : a ∈ L) (ht : T a = t) (aj : AJ t n) (hin : vp_in i n) (hdg : decode cc pc = .ok (.laload, 1))
    (kk : ∀ x : Int64, x = ρ a i.toNatClampNeg → W p l e R s m args below meth c H locs cells slots Q (F0 m (pc + 1) ls (.long x :: rest))) : W p l e R s m args below meth c H locs cells slots Q (F0 m pc ls (.int i :: .ref a :: rest)) := by
  obtain ⟨q0, hq⟩ := hB.1.at ha ht (aj cA (r a) (σ a) (ρ a))
  exact va_lald hx hb hK hB.1 q0 2 hq rfl hin hdg (kk _ rfl)
theorem t_aq {ki n t' : Nat} {i : Int32} {C : String} (hx : p.tables.exec = Jvm.exec) (hb : c.code = cc) (hK : va_K D vwCl (tyA cA) s) (hG : GR L T r) (hB : TS D cA L T r rng ms σ0 σ ρ H) (ha : a ∈ L) (ht : T a = t) (aq : AQ t ki n t') (hki : (tyA cA)[ki]? = some (cA ki, .object C)) (hin : vp_in i n) (hdg : decode cc pc = .ok (.aaload, 1))
    (kk : ∀ b : Nat, r a i.toNatClampNeg = some b → b ∈ L → T b = t' → W p l e R s m args below meth c H locs cells slots Q (F0 m (pc + 1) ls (.ref b :: rest))) : W p l e R s m args below meth c H locs cells slots Q (F0 m pc ls (.int i :: .ref a :: rest)) := by
  obtain ⟨q0, hq⟩ := hB.1.at ha ht (aq.1 cA (r a) (σ a) (ρ a))
  have hlt : i.toNatClampNeg < n := Nat.not_le.mp fun q => hin (Or.inr q)
  obtain ⟨b, g1, g2, g3⟩ := hG a ha i.toNatClampNeg t' (by rw [ht]; exact aq.2 _ hlt)
  refine va_aldq hx hb hK hB.1 q0 ki hq hki hin hdg ?_
  rw [g1]
  exact kk b g1 g2 g3
theorem t_ar {ki n t' : Nat} {i : Int32} {C : String} (hx : p.tables.exec = Jvm.exec) (hb : c.code = cc) (hK : va_K D vwCl (tyA cA) s) (hG : GR L T r) (hB : TS D cA L T r rng ms σ0 σ ρ H) (ha : a ∈ L) (ht : T a = t) (ar : AR t ki n) (hf : fT t i.toNatClampNeg = some t') (hki : (tyA cA)[ki]? = some (cA ki, .object C)) (hin : vp_in i n) (hdg : decode cc pc = .ok (.aaload, 1))
    (kk : ∀ b : Nat, r a i.toNatClampNeg = some b → b ∈ L → T b = t' → W p l e R s m args below meth c H locs cells slots Q (F0 m (pc + 1) ls (.ref b :: rest))) : W p l e R s m args below meth c H locs cells slots Q (F0 m pc ls (.int i :: .ref a :: rest)) := by
  obtain ⟨q0, hq⟩ := hB.1.at ha ht (ar cA (r a) (σ a) (ρ a))
  obtain ⟨b, g1, g2, g3⟩ := hG a ha i.toNatClampNeg t' (by rw [ht]; exact hf)
  refine va_aldq hx hb hK hB.1 q0 ki hq hki hin hdg ?_
  rw [g1]
  exact kk b g1 g2 g3
theorem t_len {ki n : Nat} {x : vp_A} {ty : FieldType} {v : Int32} (hx : p.tables.exec = Jvm.exec) (hb : c.code = cc) (hK : va_K D vwCl (tyA cA) s) (hB : TS D cA L T r rng ms σ0 σ ρ H) (ha : a ∈ L) (ht : T a = t) (hs : shp cA t (r a) (σ a) (ρ a) = .inl (cA ki, x)) (hn : x.1 = n) (hki : (tyA cA)[ki]? = some (cA ki, ty)) (hv : Int32.ofNat n = v) (hdg : decode cc pc = .ok (.arraylength, 1))
    (kk : W p l e R s m args below meth c H locs cells slots Q (F0 m (pc + 1) ls (.int v :: rest))) : W p l e R s m args below meth c H locs cells slots Q (F0 m pc ls (.ref a :: rest)) := by
  obtain ⟨q0, hq⟩ := hB.1.at ha ht hs
  exact va_alen hx hb hK hB.1 q0 ki hq hki (by rw [hn]; exact hv) hdg kk
/-- stores -/
theorem t_si {n : Nat} {i x : Int32} (hx : p.tables.exec = Jvm.exec) (hb : c.code = cc) (hK : va_K D vwCl (tyA cA) s) (hL : LA A L) (hB : TS D cA L T r rng ms σ0 σ ρ H) (hS : va_S A H0 H locs) (ha : a ∈ L) (ht : T a = t) (ai : AI t 1 n) (hin : vp_in i n) (h1 : (rng t i.toNatClampNeg).1 ≤ x.toInt) (h2 : x.toInt ≤ (rng t i.toNatClampNeg).2) (hm : md ms t i.toNatClampNeg) (hdg : decode cc pc = .ok (.iastore, 1))
    (kk : ∀ (H1 : Heap) (locs1 : List Loc) (σ1 : Sg), σ1 = up2 σ a i.toNatClampNeg x → TS D cA L T r rng ms σ0 σ1 ρ H1 → va_S A H0 H1 locs1 → W p l e R s m args below meth c H1 locs1 cells slots Q (F0 m (pc + 1) ls rest)) : W p l e R s m args below meth c H locs cells slots Q (F0 m pc ls (.int x :: .int i :: .ref a :: rest)) := by
  obtain ⟨q0, hq⟩ := hB.1.at ha ht (ai cA (r a) (σ a) (ρ a))
  have he : cel cA T r σ ρ a = .inl (cA 1, n, .inl (σ a)) := by unfold cel; rw [ht, ai]
  refine va_iast hx hb hK hB.1 (hL.D _) hS q0 1 hq rfl hin hdg (fun H1 locs1 hP1 _ hS1 => ?_)
  refine kk H1 locs1 _ rfl ⟨?_, hB.2.1.put ht h1 h2, hB.2.2.put ht hm⟩ hS1
  exact TP.put hL ha hq he (cel_up (k := i.toNatClampNeg) (x := x) ht (by rw [ai]; rfl)) hP1
theorem t_sb {n : Nat} {i x : Int32} (hx : p.tables.exec = Jvm.exec) (hb : c.code = cc) (hK : va_K D vwCl (tyA cA) s) (hL : LA A L) (hB : TS D cA L T r rng ms σ0 σ ρ H) (hS : va_S A H0 H locs) (ha : a ∈ L) (ht : T a = t) (ai : AI t 0 n) (hin : vp_in i n) (h1 : (rng t i.toNatClampNeg).1 ≤ (vp_nar .byte x).toInt) (h2 : (vp_nar .byte x).toInt ≤ (rng t i.toNatClampNeg).2) (hm : md ms t i.toNatClampNeg) (hdg : decode cc pc = .ok (.bastore, 1))
    (kk : ∀ (H1 : Heap) (locs1 : List Loc) (σ1 : Sg), σ1 = up2 σ a i.toNatClampNeg (vp_nar .byte x) → TS D cA L T r rng ms σ0 σ1 ρ H1 → va_S A H0 H1 locs1 → W p l e R s m args below meth c H1 locs1 cells slots Q (F0 m (pc + 1) ls rest)) : W p l e R s m args below meth c H locs cells slots Q (F0 m pc ls (.int x :: .int i :: .ref a :: rest)) := by
  obtain ⟨q0, hq⟩ := hB.1.at ha ht (ai cA (r a) (σ a) (ρ a))
  have he : cel cA T r σ ρ a = .inl (cA 0, n, .inl (σ a)) := by unfold cel; rw [ht, ai]
  refine va_bast hx hb hK hB.1 (hL.D _) hS q0 0 hq rfl hin hdg (fun H1 locs1 hP1 _ hS1 => ?_)
  refine kk H1 locs1 _ rfl ⟨?_, hB.2.1.put ht h1 h2, hB.2.2.put ht hm⟩ hS1
  exact TP.put hL ha hq he (cel_up (k := i.toNatClampNeg) (x := vp_nar .byte x) ht (by rw [ai]; rfl)) hP1
theorem t_sz {n : Nat} {i x : Int32} (hx : p.tables.exec = Jvm.exec) (hb : c.code = cc) (hK : va_K D vwCl (tyA cA) s) (hL : LA A L) (hB : TS D cA L T r rng ms σ0 σ ρ H) (hS : va_S A H0 H locs) (ha : a ∈ L) (ht : T a = t) (ai : AI t 3 n) (hin : vp_in i n) (h1 : (rng t i.toNatClampNeg).1 ≤ (vp_nar .boolean x).toInt) (h2 : (vp_nar .boolean x).toInt ≤ (rng t i.toNatClampNeg).2) (hm : md ms t i.toNatClampNeg) (hdg : decode cc pc = .ok (.bastore, 1))
    (kk : ∀ (H1 : Heap) (locs1 : List Loc) (σ1 : Sg), σ1 = up2 σ a i.toNatClampNeg (vp_nar .boolean x) → TS D cA L T r rng ms σ0 σ1 ρ H1 → va_S A H0 H1 locs1 → W p l e R s m args below meth c H1 locs1 cells slots Q (F0 m (pc + 1) ls rest)) : W p l e R s m args below meth c H locs cells slots Q (F0 m pc ls (.int x :: .int i :: .ref a :: rest)) := by
  obtain ⟨q0, hq⟩ := hB.1.at ha ht (ai cA (r a) (σ a) (ρ a))
  have he : cel cA T r σ ρ a = .inl (cA 3, n, .inl (σ a)) := by unfold cel; rw [ht, ai]
  refine va_zast hx hb hK hB.1 (hL.D _) hS q0 3 hq rfl hin hdg (fun H1 locs1 hP1 _ hS1 => ?_)
  refine kk H1 locs1 _ rfl ⟨?_, hB.2.1.put ht h1 h2, hB.2.2.put ht hm⟩ hS1
  exact TP.put hL ha hq he (cel_up (k := i.toNatClampNeg) (x := vp_nar .boolean x) ht (by rw [ai]; rfl)) hP1
theorem t_sl {n : Nat} {i : Int32} {x : Int64} (hx : p.tables.exec = Jvm.exec) (hb : c.code = cc) (hK : va_K D vwCl (tyA cA) s) (hL : LA A L) (hB : TS D cA L T r rng ms σ0 σ ρ H) (hS : va_S A H0 H locs) (ha : a ∈ L) (ht : T a = t) (aj : AJ t n) (hin : vp_in i n) (hdg : decode cc pc = .ok (.lastore, 1))
    (kk : ∀ (H1 : Heap) (locs1 : List Loc) (ρ1 : Lg), ρ1 = up2 ρ a i.toNatClampNeg x → TS D cA L T r rng ms σ0 σ ρ1 H1 → va_S A H0 H1 locs1 → W p l e R s m args below meth c H1 locs1 cells slots Q (F0 m (pc + 1) ls rest)) : W p l e R s m args below meth c H locs cells slots Q (F0 m pc ls (.long x :: .int i :: .ref a :: rest)) := by
  obtain ⟨q0, hq⟩ := hB.1.at ha ht (aj cA (r a) (σ a) (ρ a))
  have he : cel cA T r σ ρ a = .inl (cA 2, n, .inr (.inl (ρ a))) := by unfold cel; rw [ht, aj]
  refine va_last hx hb hK hB.1 (hL.D _) hS q0 2 hq rfl hin hdg (fun H1 locs1 hP1 _ hS1 => ?_)
  refine kk H1 locs1 _ rfl ⟨?_, hB.2.1, hB.2.2⟩ hS1
  exact TP.put hL ha hq he (cel_upL (k := i.toNatClampNeg) (x := x) ht (by rw [aj]; rfl)) hP1
end TY
