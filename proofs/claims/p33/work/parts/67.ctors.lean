theorem i0_20 (j : Nat) : ini 20 j = 0 := by unfold ini; rw [if_neg (fun h => absurd h.1 (by decide)), if_neg (fun h => absurd h.1 (by decide))]
theorem i0_21 (j : Nat) : ini 21 j = 0 := by unfold ini; rw [if_neg (fun h => absurd h.1 (by decide)), if_neg (fun h => absurd h.1 (by decide))]
theorem i0_22 (j : Nat) : ini 22 j = 0 := by unfold ini; rw [if_neg (fun h => absurd h.1 (by decide)), if_neg (fun h => absurd h.1 (by decide))]
theorem i0_23 (j : Nat) : ini 23 j = 0 := by unfold ini; rw [if_neg (fun h => absurd h.1 (by decide)), if_neg (fun h => absurd h.1 (by decide))]
theorem i0_24 (j : Nat) : ini 24 j = 0 := by unfold ini; rw [if_neg (fun h => absurd h.1 (by decide)), if_neg (fun h => absurd h.1 (by decide))]
theorem i0_25 (j : Nat) : ini 25 j = 0 := by unfold ini; rw [if_neg (fun h => absurd h.1 (by decide)), if_neg (fun h => absurd h.1 (by decide))]
theorem i0_26 (j : Nat) : ini 26 j = 0 := by unfold ini; rw [if_neg (fun h => absurd h.1 (by decide)), if_neg (fun h => absurd h.1 (by decide))]
theorem i0_27 (j : Nat) : ini 27 j = 0 := by unfold ini; rw [if_neg (fun h => absurd h.1 (by decide)), if_neg (fun h => absurd h.1 (by decide))]
theorem i0_28 (j : Nat) : ini 28 j = 0 := by unfold ini; rw [if_neg (fun h => absurd h.1 (by decide)), if_neg (fun h => absurd h.1 (by decide))]
theorem i0_29 (j : Nat) : ini 29 j = 0 := by unfold ini; rw [if_neg (fun h => absurd h.1 (by decide)), if_neg (fun h => absurd h.1 (by decide))]
theorem i0_30 (j : Nat) : ini 30 j = 0 := by unfold ini; rw [if_neg (fun h => absurd h.1 (by decide)), if_neg (fun h => absurd h.1 (by decide))]
theorem i0_31 (j : Nat) : ini 31 j = 0 := by unfold ini; rw [if_neg (fun h => absurd h.1 (by decide)), if_neg (fun h => absurd h.1 (by decide))]
theorem i0_32 (j : Nat) : ini 32 j = 0 := by unfold ini; rw [if_neg (fun h => absurd h.1 (by decide)), if_neg (fun h => absurd h.1 (by decide))]
theorem i0_33 (j : Nat) : ini 33 j = 0 := by unfold ini; rw [if_neg (fun h => absurd h.1 (by decide)), if_neg (fun h => absurd h.1 (by decide))]
theorem i0_34 (j : Nat) : ini 34 j = 0 := by unfold ini; rw [if_neg (fun h => absurd h.1 (by decide)), if_neg (fun h => absurd h.1 (by decide))]
theorem i0_35 (j : Nat) : ini 35 j = 0 := by unfold ini; rw [if_neg (fun h => absurd h.1 (by decide)), if_neg (fun h => absurd h.1 (by decide))]
theorem i0_36 (j : Nat) : ini 36 j = 0 := by unfold ini; rw [if_neg (fun h => absurd h.1 (by decide)), if_neg (fun h => absurd h.1 (by decide))]
theorem i0_37 (j : Nat) : ini 37 j = 0 := by unfold ini; rw [if_neg (fun h => absurd h.1 (by decide)), if_neg (fun h => absurd h.1 (by decide))]
theorem i0_38 (j : Nat) : ini 38 j = 0 := by unfold ini; rw [if_neg (fun h => absurd h.1 (by decide)), if_neg (fun h => absurd h.1 (by decide))]
theorem i0_39 (j : Nat) : ini 39 j = 0 := by unfold ini; rw [if_neg (fun h => absurd h.1 (by decide)), if_neg (fun h => absurd h.1 (by decide))]
theorem i0_40 (j : Nat) : ini 40 j = 0 := by unfold ini; rw [if_neg (fun h => absurd h.1 (by decide)), if_neg (fun h => absurd h.1 (by decide))]
theorem i0_41 (j : Nat) : ini 41 j = 0 := by unfold ini; rw [if_neg (fun h => absurd h.1 (by decide)), if_neg (fun h => absurd h.1 (by decide))]
theorem i0_42 (j : Nat) : ini 42 j = 0 := by unfold ini; rw [if_neg (fun h => absurd h.1 (by decide)), if_neg (fun h => absurd h.1 (by decide))]
theorem i0_43 (j : Nat) : ini 43 j = 0 := by unfold ini; rw [if_neg (fun h => absurd h.1 (by decide)), if_neg (fun h => absurd h.1 (by decide))]
theorem i0_44 (j : Nat) : ini 44 j = 0 := by unfold ini; rw [if_neg (fun h => absurd h.1 (by decide)), if_neg (fun h => absurd h.1 (by decide))]
theorem i0_45 (j : Nat) : ini 45 j = 0 := by unfold ini; rw [if_neg (fun h => absurd h.1 (by decide)), if_neg (fun h => absurd h.1 (by decide))]
theorem i0_46 (j : Nat) : ini 46 j = 0 := by unfold ini; rw [if_neg (fun h => absurd h.1 (by decide)), if_neg (fun h => absurd h.1 (by decide))]
theorem i0_47 (j : Nat) : ini 47 j = 0 := by unfold ini; rw [if_neg (fun h => absurd h.1 (by decide)), if_neg (fun h => absurd h.1 (by decide))]
theorem i0_48 (j : Nat) : ini 48 j = 0 := by unfold ini; rw [if_neg (fun h => absurd h.1 (by decide)), if_neg (fun h => absurd h.1 (by decide))]
theorem i0_49 (j : Nat) : ini 49 j = 0 := by unfold ini; rw [if_neg (fun h => absurd h.1 (by decide)), if_neg (fun h => absurd h.1 (by decide))]
theorem i0_50 (j : Nat) : ini 50 j = 0 := by unfold ini; rw [if_neg (fun h => absurd h.1 (by decide)), if_neg (fun h => absurd h.1 (by decide))]
theorem i0_51 (j : Nat) : ini 51 j = 0 := by unfold ini; rw [if_neg (fun h => absurd h.1 (by decide)), if_neg (fun h => absurd h.1 (by decide))]
theorem i0_52 (j : Nat) : ini 52 j = 0 := by unfold ini; rw [if_neg (fun h => absurd h.1 (by decide)), if_neg (fun h => absurd h.1 (by decide))]
theorem i0_53 (j : Nat) : ini 53 j = 0 := by unfold ini; rw [if_neg (fun h => absurd h.1 (by decide)), if_neg (fun h => absurd h.1 (by decide))]
theorem i0_54 (j : Nat) : ini 54 j = 0 := by unfold ini; rw [if_neg (fun h => absurd h.1 (by decide)), if_neg (fun h => absurd h.1 (by decide))]
theorem i0_55 (j : Nat) : ini 55 j = 0 := by unfold ini; rw [if_neg (fun h => absurd h.1 (by decide)), if_neg (fun h => absurd h.1 (by decide))]
theorem i0_56 (j : Nat) : ini 56 j = 0 := by unfold ini; rw [if_neg (fun h => absurd h.1 (by decide)), if_neg (fun h => absurd h.1 (by decide))]
theorem i0_57 (j : Nat) : ini 57 j = 0 := by unfold ini; rw [if_neg (fun h => absurd h.1 (by decide)), if_neg (fun h => absurd h.1 (by decide))]
theorem i0_58 (j : Nat) : ini 58 j = 0 := by unfold ini; rw [if_neg (fun h => absurd h.1 (by decide)), if_neg (fun h => absurd h.1 (by decide))]
theorem i0_59 (j : Nat) : ini 59 j = 0 := by unfold ini; rw [if_neg (fun h => absurd h.1 (by decide)), if_neg (fun h => absurd h.1 (by decide))]
theorem i0_60 (j : Nat) : ini 60 j = 0 := by unfold ini; rw [if_neg (fun h => absurd h.1 (by decide)), if_neg (fun h => absurd h.1 (by decide))]
theorem i0_61 (j : Nat) : ini 61 j = 0 := by unfold ini; rw [if_neg (fun h => absurd h.1 (by decide)), if_neg (fun h => absurd h.1 (by decide))]
theorem i0_62 (j : Nat) : ini 62 j = 0 := by unfold ini; rw [if_neg (fun h => absurd h.1 (by decide)), if_neg (fun h => absurd h.1 (by decide))]
theorem i0_63 (j : Nat) : ini 63 j = 0 := by unfold ini; rw [if_neg (fun h => absurd h.1 (by decide)), if_neg (fun h => absurd h.1 (by decide))]
theorem i0_64 (j : Nat) : ini 64 j = 0 := by unfold ini; rw [if_neg (fun h => absurd h.1 (by decide)), if_neg (fun h => absurd h.1 (by decide))]
theorem i0_65 (j : Nat) : ini 65 j = 0 := by unfold ini; rw [if_neg (fun h => absurd h.1 (by decide)), if_neg (fun h => absurd h.1 (by decide))]
theorem i0_66 (j : Nat) : ini 66 j = 0 := by unfold ini; rw [if_neg (fun h => absurd h.1 (by decide)), if_neg (fun h => absurd h.1 (by decide))]
theorem i0_67 (j : Nat) : ini 67 j = 0 := by unfold ini; rw [if_neg (fun h => absurd h.1 (by decide)), if_neg (fun h => absurd h.1 (by decide))]
theorem i0_68 (j : Nat) : ini 68 j = 0 := by unfold ini; rw [if_neg (fun h => absurd h.1 (by decide)), if_neg (fun h => absurd h.1 (by decide))]
theorem i0_69 (j : Nat) : ini 69 j = 0 := by unfold ini; rw [if_neg (fun h => absurd h.1 (by decide)), if_neg (fun h => absurd h.1 (by decide))]
theorem i0_70 (j : Nat) : ini 70 j = 0 := by unfold ini; rw [if_neg (fun h => absurd h.1 (by decide)), if_neg (fun h => absurd h.1 (by decide))]
theorem i0_71 (j : Nat) : ini 71 j = 0 := by unfold ini; rw [if_neg (fun h => absurd h.1 (by decide)), if_neg (fun h => absurd h.1 (by decide))]
theorem i0_72 (j : Nat) : ini 72 j = 0 := by unfold ini; rw [if_neg (fun h => absurd h.1 (by decide)), if_neg (fun h => absurd h.1 (by decide))]
theorem i0_73 (j : Nat) : ini 73 j = 0 := by unfold ini; rw [if_neg (fun h => absurd h.1 (by decide)), if_neg (fun h => absurd h.1 (by decide))]
theorem i0_74 (j : Nat) : ini 74 j = 0 := by unfold ini; rw [if_neg (fun h => absurd h.1 (by decide)), if_neg (fun h => absurd h.1 (by decide))]
theorem i0_75 (j : Nat) : ini 75 j = 0 := by unfold ini; rw [if_neg (fun h => absurd h.1 (by decide)), if_neg (fun h => absurd h.1 (by decide))]
theorem i0_76 (j : Nat) : ini 76 j = 0 := by unfold ini; rw [if_neg (fun h => absurd h.1 (by decide)), if_neg (fun h => absurd h.1 (by decide))]
theorem i0_77 (j : Nat) : ini 77 j = 0 := by unfold ini; rw [if_neg (fun h => absurd h.1 (by decide)), if_neg (fun h => absurd h.1 (by decide))]
theorem i0_78 (j : Nat) : ini 78 j = 0 := by unfold ini; rw [if_neg (fun h => absurd h.1 (by decide)), if_neg (fun h => absurd h.1 (by decide))]
theorem i0_79 (j : Nat) : ini 79 j = 0 := by unfold ini; rw [if_neg (fun h => absurd h.1 (by decide)), if_neg (fun h => absurd h.1 (by decide))]
theorem i0_80 (j : Nat) : ini 80 j = 0 := by unfold ini; rw [if_neg (fun h => absurd h.1 (by decide)), if_neg (fun h => absurd h.1 (by decide))]
theorem i0_81 (j : Nat) : ini 81 j = 0 := by unfold ini; rw [if_neg (fun h => absurd h.1 (by decide)), if_neg (fun h => absurd h.1 (by decide))]
theorem i0_82 (j : Nat) : ini 82 j = 0 := by unfold ini; rw [if_neg (fun h => absurd h.1 (by decide)), if_neg (fun h => absurd h.1 (by decide))]
theorem i0_83 (j : Nat) : ini 83 j = 0 := by unfold ini; rw [if_neg (fun h => absurd h.1 (by decide)), if_neg (fun h => absurd h.1 (by decide))]
theorem i0_84 (j : Nat) : ini 84 j = 0 := by unfold ini; rw [if_neg (fun h => absurd h.1 (by decide)), if_neg (fun h => absurd h.1 (by decide))]
theorem i0_85 (j : Nat) : ini 85 j = 0 := by unfold ini; rw [if_neg (fun h => absurd h.1 (by decide)), if_neg (fun h => absurd h.1 (by decide))]
theorem i0_86 (j : Nat) : ini 86 j = 0 := by unfold ini; rw [if_neg (fun h => absurd h.1 (by decide)), if_neg (fun h => absurd h.1 (by decide))]
theorem i0_87 (j : Nat) : ini 87 j = 0 := by unfold ini; rw [if_neg (fun h => absurd h.1 (by decide)), if_neg (fun h => absurd h.1 (by decide))]
theorem i0_88 (j : Nat) : ini 88 j = 0 := by unfold ini; rw [if_neg (fun h => absurd h.1 (by decide)), if_neg (fun h => absurd h.1 (by decide))]
theorem i0_89 (j : Nat) : ini 89 j = 0 := by unfold ini; rw [if_neg (fun h => absurd h.1 (by decide)), if_neg (fun h => absurd h.1 (by decide))]
theorem i0_90 (j : Nat) : ini 90 j = 0 := by unfold ini; rw [if_neg (fun h => absurd h.1 (by decide)), if_neg (fun h => absurd h.1 (by decide))]
theorem i0_91 (j : Nat) : ini 91 j = 0 := by unfold ini; rw [if_neg (fun h => absurd h.1 (by decide)), if_neg (fun h => absurd h.1 (by decide))]
theorem i0_92 (j : Nat) : ini 92 j = 0 := by unfold ini; rw [if_neg (fun h => absurd h.1 (by decide)), if_neg (fun h => absurd h.1 (by decide))]
theorem i0_93 (j : Nat) : ini 93 j = 0 := by unfold ini; rw [if_neg (fun h => absurd h.1 (by decide)), if_neg (fun h => absurd h.1 (by decide))]
theorem i0_94 (j : Nat) : ini 94 j = 0 := by unfold ini; rw [if_neg (fun h => absurd h.1 (by decide)), if_neg (fun h => absurd h.1 (by decide))]
theorem i0_95 (j : Nat) : ini 95 j = 0 := by unfold ini; rw [if_neg (fun h => absurd h.1 (by decide)), if_neg (fun h => absurd h.1 (by decide))]
theorem i0_96 (j : Nat) : ini 96 j = 0 := by unfold ini; rw [if_neg (fun h => absurd h.1 (by decide)), if_neg (fun h => absurd h.1 (by decide))]
theorem i0_97 (j : Nat) : ini 97 j = 0 := by unfold ini; rw [if_neg (fun h => absurd h.1 (by decide)), if_neg (fun h => absurd h.1 (by decide))]
theorem i0_98 (j : Nat) : ini 98 j = 0 := by unfold ini; rw [if_neg (fun h => absurd h.1 (by decide)), if_neg (fun h => absurd h.1 (by decide))]
theorem i0_99 (j : Nat) : ini 99 j = 0 := by unfold ini; rw [if_neg (fun h => absurd h.1 (by decide)), if_neg (fun h => absurd h.1 (by decide))]
theorem i0_107 (j : Nat) : ini 107 j = 0 := by unfold ini; rw [if_neg (fun h => absurd h.1 (by decide)), if_neg (fun h => absurd h.1 (by decide))]
theorem i0_108 (j : Nat) : ini 108 j = 0 := by unfold ini; rw [if_neg (fun h => absurd h.1 (by decide)), if_neg (fun h => absurd h.1 (by decide))]
theorem i0_109 (j : Nat) : ini 109 j = 0 := by unfold ini; rw [if_neg (fun h => absurd h.1 (by decide)), if_neg (fun h => absurd h.1 (by decide))]
theorem i0_110 (j : Nat) : ini 110 j = 0 := by unfold ini; rw [if_neg (fun h => absurd h.1 (by decide)), if_neg (fun h => absurd h.1 (by decide))]
theorem i0_111 (j : Nat) : ini 111 j = 0 := by unfold ini; rw [if_neg (fun h => absurd h.1 (by decide)), if_neg (fun h => absurd h.1 (by decide))]
theorem i0_112 (j : Nat) : ini 112 j = 0 := by unfold ini; rw [if_neg (fun h => absurd h.1 (by decide)), if_neg (fun h => absurd h.1 (by decide))]
theorem i0_113 (j : Nat) : ini 113 j = 0 := by unfold ini; rw [if_neg (fun h => absurd h.1 (by decide)), if_neg (fun h => absurd h.1 (by decide))]
theorem i0_114 (j : Nat) : ini 114 j = 0 := by unfold ini; rw [if_neg (fun h => absurd h.1 (by decide)), if_neg (fun h => absurd h.1 (by decide))]
theorem i0_115 (j : Nat) : ini 115 j = 0 := by unfold ini; rw [if_neg (fun h => absurd h.1 (by decide)), if_neg (fun h => absurd h.1 (by decide))]
theorem i0_116 (j : Nat) : ini 116 j = 0 := by unfold ini; rw [if_neg (fun h => absurd h.1 (by decide)), if_neg (fun h => absurd h.1 (by decide))]
theorem i0_117 (j : Nat) : ini 117 j = 0 := by unfold ini; rw [if_neg (fun h => absurd h.1 (by decide)), if_neg (fun h => absurd h.1 (by decide))]
theorem i0_118 (j : Nat) : ini 118 j = 0 := by unfold ini; rw [if_neg (fun h => absurd h.1 (by decide)), if_neg (fun h => absurd h.1 (by decide))]
theorem i0_119 (j : Nat) : ini 119 j = 0 := by unfold ini; rw [if_neg (fun h => absurd h.1 (by decide)), if_neg (fun h => absurd h.1 (by decide))]
theorem i0_120 (j : Nat) : ini 120 j = 0 := by unfold ini; rw [if_neg (fun h => absurd h.1 (by decide)), if_neg (fun h => absurd h.1 (by decide))]
theorem i0_121 (j : Nat) : ini 121 j = 0 := by unfold ini; rw [if_neg (fun h => absurd h.1 (by decide)), if_neg (fun h => absurd h.1 (by decide))]
theorem i0_122 (j : Nat) : ini 122 j = 0 := by unfold ini; rw [if_neg (fun h => absurd h.1 (by decide)), if_neg (fun h => absurd h.1 (by decide))]
theorem i0_123 (j : Nat) : ini 123 j = 0 := by unfold ini; rw [if_neg (fun h => absurd h.1 (by decide)), if_neg (fun h => absurd h.1 (by decide))]
theorem i0_124 (j : Nat) : ini 124 j = 0 := by unfold ini; rw [if_neg (fun h => absurd h.1 (by decide)), if_neg (fun h => absurd h.1 (by decide))]
theorem i0_125 (j : Nat) : ini 125 j = 0 := by unfold ini; rw [if_neg (fun h => absurd h.1 (by decide)), if_neg (fun h => absurd h.1 (by decide))]
theorem i0_126 (j : Nat) : ini 126 j = 0 := by unfold ini; rw [if_neg (fun h => absurd h.1 (by decide)), if_neg (fun h => absurd h.1 (by decide))]
theorem i0_127 (j : Nat) : ini 127 j = 0 := by unfold ini; rw [if_neg (fun h => absurd h.1 (by decide)), if_neg (fun h => absurd h.1 (by decide))]
theorem i0_128 (j : Nat) : ini 128 j = 0 := by unfold ini; rw [if_neg (fun h => absurd h.1 (by decide)), if_neg (fun h => absurd h.1 (by decide))]
theorem i0_129 (j : Nat) : ini 129 j = 0 := by unfold ini; rw [if_neg (fun h => absurd h.1 (by decide)), if_neg (fun h => absurd h.1 (by decide))]
theorem i0_130 (j : Nat) : ini 130 j = 0 := by unfold ini; rw [if_neg (fun h => absurd h.1 (by decide)), if_neg (fun h => absurd h.1 (by decide))]
theorem i0_131 (j : Nat) : ini 131 j = 0 := by unfold ini; rw [if_neg (fun h => absurd h.1 (by decide)), if_neg (fun h => absurd h.1 (by decide))]
theorem i0_132 (j : Nat) : ini 132 j = 0 := by unfold ini; rw [if_neg (fun h => absurd h.1 (by decide)), if_neg (fun h => absurd h.1 (by decide))]
theorem i0_133 (j : Nat) : ini 133 j = 0 := by unfold ini; rw [if_neg (fun h => absurd h.1 (by decide)), if_neg (fun h => absurd h.1 (by decide))]
theorem i0_134 (j : Nat) : ini 134 j = 0 := by unfold ini; rw [if_neg (fun h => absurd h.1 (by decide)), if_neg (fun h => absurd h.1 (by decide))]
theorem i0_135 (j : Nat) : ini 135 j = 0 := by unfold ini; rw [if_neg (fun h => absurd h.1 (by decide)), if_neg (fun h => absurd h.1 (by decide))]
theorem i0_136 (j : Nat) : ini 136 j = 0 := by unfold ini; rw [if_neg (fun h => absurd h.1 (by decide)), if_neg (fun h => absurd h.1 (by decide))]
theorem i0_137 (j : Nat) : ini 137 j = 0 := by unfold ini; rw [if_neg (fun h => absurd h.1 (by decide)), if_neg (fun h => absurd h.1 (by decide))]
theorem i0_138 (j : Nat) : ini 138 j = 0 := by unfold ini; rw [if_neg (fun h => absurd h.1 (by decide)), if_neg (fun h => absurd h.1 (by decide))]
theorem i0_139 (j : Nat) : ini 139 j = 0 := by unfold ini; rw [if_neg (fun h => absurd h.1 (by decide)), if_neg (fun h => absurd h.1 (by decide))]
theorem i0_140 (j : Nat) : ini 140 j = 0 := by unfold ini; rw [if_neg (fun h => absurd h.1 (by decide)), if_neg (fun h => absurd h.1 (by decide))]
theorem i0_141 (j : Nat) : ini 141 j = 0 := by unfold ini; rw [if_neg (fun h => absurd h.1 (by decide)), if_neg (fun h => absurd h.1 (by decide))]
theorem i0_142 (j : Nat) : ini 142 j = 0 := by unfold ini; rw [if_neg (fun h => absurd h.1 (by decide)), if_neg (fun h => absurd h.1 (by decide))]
theorem i0_143 (j : Nat) : ini 143 j = 0 := by unfold ini; rw [if_neg (fun h => absurd h.1 (by decide)), if_neg (fun h => absurd h.1 (by decide))]
theorem i0_144 (j : Nat) : ini 144 j = 0 := by unfold ini; rw [if_neg (fun h => absurd h.1 (by decide)), if_neg (fun h => absurd h.1 (by decide))]
theorem i0_145 (j : Nat) : ini 145 j = 0 := by unfold ini; rw [if_neg (fun h => absurd h.1 (by decide)), if_neg (fun h => absurd h.1 (by decide))]
theorem i0_146 (j : Nat) : ini 146 j = 0 := by unfold ini; rw [if_neg (fun h => absurd h.1 (by decide)), if_neg (fun h => absurd h.1 (by decide))]
theorem i0_147 (j : Nat) : ini 147 j = 0 := by unfold ini; rw [if_neg (fun h => absurd h.1 (by decide)), if_neg (fun h => absurd h.1 (by decide))]
theorem i0_148 (j : Nat) : ini 148 j = 0 := by unfold ini; rw [if_neg (fun h => absurd h.1 (by decide)), if_neg (fun h => absurd h.1 (by decide))]
theorem mw_1_79 : (.methodLink RX8 3 objectInit : Cond) ∈ wsA := wsA_t (List.mem_append_left _ (List.mem_of_getElem? (l := tables_1_1) (i := 79) rfl)) rfl
theorem mw_1_28 : (.instanceMethod objectInit : Cond) ∈ wsA := wsA_t (List.mem_append_left _ (List.mem_of_getElem? (l := tables_1_1) (i := 28) rfl)) rfl
theorem mw_1_29 : (.code objectInit ⟨#[0xb1]⟩ 1 none : Cond) ∈ wsA := wsA_t (List.mem_append_left _ (List.mem_of_getElem? (l := tables_1_1) (i := 29) rfl)) rfl
theorem mw_1_61 : (.arrayClass .int : Cond) ∈ wsA := wsA_t (List.mem_append_left _ (List.mem_of_getElem? (l := tables_1_1) (i := 61) rfl)) rfl
theorem dX8_init_0 : decode cX8_init 0 = .ok (.aload_n 0, 1) := by decide +kernel
theorem dX8_init_1 : decode cX8_init 1 = .ok (.invokespecial 3, 3) := by decide +kernel
theorem dX8_init_4 : decode cX8_init 4 = .ok (.aload_n 0, 1) := by decide +kernel
theorem dX8_init_5 : decode cX8_init 5 = .ok (.iconst 4, 1) := by decide +kernel
theorem dX8_init_6 : decode cX8_init 6 = .ok (.newarray .int, 2) := by decide +kernel
theorem dX8_init_8 : decode cX8_init 8 = .ok (.putfield 9, 3) := by decide +kernel
theorem dX8_init_11 : decode cX8_init 11 = .ok (.aload_n 0, 1) := by decide +kernel
theorem dX8_init_12 : decode cX8_init 12 = .ok (.iconst 4, 1) := by decide +kernel
theorem dX8_init_13 : decode cX8_init 13 = .ok (.newarray .int, 2) := by decide +kernel
theorem dX8_init_15 : decode cX8_init 15 = .ok (.putfield 15, 3) := by decide +kernel
theorem dX8_init_18 : decode cX8_init 18 = .ok (.aload_n 0, 1) := by decide +kernel
theorem dX8_init_19 : decode cX8_init 19 = .ok (.iconst 4, 1) := by decide +kernel
theorem dX8_init_20 : decode cX8_init 20 = .ok (.newarray .int, 2) := by decide +kernel
theorem dX8_init_22 : decode cX8_init 22 = .ok (.putfield 18, 3) := by decide +kernel
theorem dX8_init_25 : decode cX8_init 25 = .ok (.aload_n 0, 1) := by decide +kernel
theorem dX8_init_26 : decode cX8_init 26 = .ok (.iconst 4, 1) := by decide +kernel
theorem dX8_init_27 : decode cX8_init 27 = .ok (.newarray .int, 2) := by decide +kernel
theorem dX8_init_29 : decode cX8_init 29 = .ok (.putfield 21, 3) := by decide +kernel
theorem dX8_init_32 : decode cX8_init 32 = .ok (.aload_n 0, 1) := by decide +kernel
theorem dX8_init_33 : decode cX8_init 33 = .ok (.bipush 20, 2) := by decide +kernel
theorem dX8_init_35 : decode cX8_init 35 = .ok (.newarray .int, 2) := by decide +kernel
theorem dX8_init_37 : decode cX8_init 37 = .ok (.putfield 24, 3) := by decide +kernel
theorem dX8_init_40 : decode cX8_init 40 = .ok (.aload_n 0, 1) := by decide +kernel
theorem dX8_init_41 : decode cX8_init 41 = .ok (.bipush 40, 2) := by decide +kernel
theorem dX8_init_43 : decode cX8_init 43 = .ok (.newarray .int, 2) := by decide +kernel
theorem dX8_init_45 : decode cX8_init 45 = .ok (.putfield 27, 3) := by decide +kernel
theorem dX8_init_48 : decode cX8_init 48 = .ok (.return_, 1) := by decide +kernel
theorem hn_8 : ∀ k t : Nat, fT 8 k = some t → k < 6 := fun k t h => match k, h with | 0, h => by decide | 1, h => by decide | 2, h => by decide | 3, h => by decide | 4, h => by decide | 5, h => by decide | 6, h => nomatch h | 7, h => nomatch h | k + 8, h => nomatch h
theorem hf_8 : ∀ j : Nat, (fun _ => (0 : Int32)) j = ini 8 j := fun j => by unfold ini; rw [if_neg (fun h => absurd h.1 (by decide)), if_neg (fun h => absurd h.1 (by decide))]
set_option maxHeartbeats 4000000 in
set_option maxRecDepth 100000 in
theorem kk_X8_init_8 (l : Launch) (D : va_G) (cA : Nat → ClassId) (L : List Nat) (T : Nat → Nat) (r : Rg) (σ : Sg) (ρ : Lg) (hL : L.Nodup) (sz : Nat) (h0 : Nat) (mh0 : h0 ∈ L) (th0 : T h0 = 8) (z0 : ∀ j, σ h0 j = 0) : Met l yX8_init (.code yX8_init cX8_init 1 none :: wsA) ({ frames := 1, cells := 6, slots := 76, locals := 40 }) (PR D cA L T r σ ρ sz [.ref h0]) (va_Qv (fun _ : Unit => True) (fun _ t => KQ D cA L T r σ h0 sz t) (dm L sz)) 6 76 (dm L sz) := by
  refine Met.ofW (cc := cX8_init) (maxL := 1) (ret := none) (by decide) rfl ?_
  intro p e s m args below meth c s₁ B hml hv
  obtain ⟨rfl, hsz, hP, hK, hN⟩ := hv
  have hx := B.exec
  have hb := B.bytes
  have hr := B.returns
  have hts : ∀ w ∈ wsA, w.before _ s = true := fun w h => atoms_spec (ws := .code yX8_init cX8_init 1 none :: wsA) B.pre w (List.mem_cons_of_mem _ h)
  have hown : s.vm.findClass RX8 = some m.cls := findClass_of_methodNamed B.named
  have hin : meth.name = "<init>" := (name_of_methodNamed B.named B.method).1
  subst hsz
  have hKS := KS.begin (sz := s.heap.size) hP ⟨hL, fun a h => Or.inl h⟩ mh0 th0 z0
  have hA : ∀ q : Nat, s.heap.size ≤ q → dm L s.heap.size q := fun q h => Or.inr h
  have hS : va_S (dm L s.heap.size) s.heap s.heap [] := va_S.rf
  have hl := lv_entry ([.ref h0]) (n := 1) (Nat.le_of_ble_eq_true rfl)
  rw [lg_entry_eq]
  generalize (lg_sl ([.ref h0]) ++ List.replicate (1 - (lg_sl ([.ref h0])).length) Slot.unset).toArray = ls at hl ⊢
  have hl : lv_has ls 1 [(0, .ref h0)] := hl
  refine lv_aload_n hx hb dX8_init_0 rfl (lv_at hl 0 rfl) ?_
  refine W.objInit hx hb hown (hts _ mw_1_79) (hts _ mw_1_28) (hts _ mw_1_29) rfl (by rw [hml]; exact hl.1) rfl dX8_init_1 (Nat.le_of_ble_eq_true rfl) (Nat.le_of_ble_eq_true rfl) ?_
  refine W.eq (g2 := F0 m 4 ls []) rfl ?_
  refine lv_aload_n hx hb dX8_init_4 rfl (lv_at hl 0 rfl) ?_
  refine lv_iconst (v := 4) hx hb dX8_init_5 (by decide) ?_
  refine k_na (atype := .int) (t := 45) (ki := 1) (a0 := (4, .inl (fun _ => 0))) hx hb hts mw_1_61 rfl (fun C h => by cases h) hK rfl hKS hS hA rfl (fun _ => rfl) (fun j => i0_45 j) (fun _ => rfl) (by decide) rfl (by decide) (Nat.le_of_ble_eq_true rfl) (Nat.le_of_ble_eq_true rfl) dX8_init_6 (fun q_1 L1 T1 r1 σ1 ρ1 H hKS mq_1 tq_1 hS => ?_)
  refine W.widen (k := 1) (n := 4) (Nat.le_of_ble_eq_true rfl) (Nat.le_of_ble_eq_true rfl) ?_
  refine k_pr hx hb hts hown hin hK hKS hS mq_1 tq_1 fq_8_0 rfl rfl rfl rfl (fun i h1 h2 => absurd h2 (by omega)) (fun _ h => by cases h) mw_1_80 dX8_init_8 (fun r1 H locs hKS _ _ hS => ?_)
  refine lv_aload_n hx hb dX8_init_11 rfl (lv_at hl 0 rfl) ?_
  refine lv_iconst (v := 4) hx hb dX8_init_12 (by decide) ?_
  refine k_na (atype := .int) (t := 46) (ki := 1) (a0 := (4, .inl (fun _ => 0))) hx hb hts mw_1_61 rfl (fun C h => by cases h) hK rfl hKS hS hA rfl (fun _ => rfl) (fun j => i0_46 j) (fun _ => rfl) (by decide) rfl (by decide) (Nat.le_of_ble_eq_true rfl) (Nat.le_of_ble_eq_true rfl) dX8_init_13 (fun q_2 L1 T1 r1 σ1 ρ1 H hKS mq_2 tq_2 hS => ?_)
  refine W.widen (k := 2) (n := 8) (Nat.le_of_ble_eq_true rfl) (Nat.le_of_ble_eq_true rfl) ?_
  refine k_pr hx hb hts hown hin hK hKS hS mq_2 tq_2 fq_8_1 rfl rfl rfl rfl (fun i h1 h2 => absurd h2 (by omega)) (fun _ h => by cases h) mw_1_85 dX8_init_15 (fun r1 H locs hKS _ _ hS => ?_)
  refine lv_aload_n hx hb dX8_init_18 rfl (lv_at hl 0 rfl) ?_
  refine lv_iconst (v := 4) hx hb dX8_init_19 (by decide) ?_
  refine k_na (atype := .int) (t := 47) (ki := 1) (a0 := (4, .inl (fun _ => 0))) hx hb hts mw_1_61 rfl (fun C h => by cases h) hK rfl hKS hS hA rfl (fun _ => rfl) (fun j => i0_47 j) (fun _ => rfl) (by decide) rfl (by decide) (Nat.le_of_ble_eq_true rfl) (Nat.le_of_ble_eq_true rfl) dX8_init_20 (fun q_3 L1 T1 r1 σ1 ρ1 H hKS mq_3 tq_3 hS => ?_)
  refine W.widen (k := 3) (n := 12) (Nat.le_of_ble_eq_true rfl) (Nat.le_of_ble_eq_true rfl) ?_
  refine k_pr hx hb hts hown hin hK hKS hS mq_3 tq_3 fq_8_2 rfl rfl rfl rfl (fun i h1 h2 => absurd h2 (by omega)) (fun _ h => by cases h) mw_1_89 dX8_init_22 (fun r1 H locs hKS _ _ hS => ?_)
  refine lv_aload_n hx hb dX8_init_25 rfl (lv_at hl 0 rfl) ?_
  refine lv_iconst (v := 4) hx hb dX8_init_26 (by decide) ?_
  refine k_na (atype := .int) (t := 48) (ki := 1) (a0 := (4, .inl (fun _ => 0))) hx hb hts mw_1_61 rfl (fun C h => by cases h) hK rfl hKS hS hA rfl (fun _ => rfl) (fun j => i0_48 j) (fun _ => rfl) (by decide) rfl (by decide) (Nat.le_of_ble_eq_true rfl) (Nat.le_of_ble_eq_true rfl) dX8_init_27 (fun q_4 L1 T1 r1 σ1 ρ1 H hKS mq_4 tq_4 hS => ?_)
  refine W.widen (k := 4) (n := 16) (Nat.le_of_ble_eq_true rfl) (Nat.le_of_ble_eq_true rfl) ?_
  refine k_pr hx hb hts hown hin hK hKS hS mq_4 tq_4 fq_8_3 rfl rfl rfl rfl (fun i h1 h2 => absurd h2 (by omega)) (fun _ h => by cases h) mw_1_92 dX8_init_29 (fun r1 H locs hKS _ _ hS => ?_)
  refine lv_aload_n hx hb dX8_init_32 rfl (lv_at hl 0 rfl) ?_
  refine lv_bipush (v := 20) hx hb dX8_init_33 (by decide) ?_
  refine k_na (atype := .int) (t := 49) (ki := 1) (a0 := (20, .inl (fun _ => 0))) hx hb hts mw_1_61 rfl (fun C h => by cases h) hK rfl hKS hS hA rfl (fun _ => rfl) (fun j => i0_49 j) (fun _ => rfl) (by decide) rfl (by decide) (Nat.le_of_ble_eq_true rfl) (Nat.le_of_ble_eq_true rfl) dX8_init_35 (fun q_5 L1 T1 r1 σ1 ρ1 H hKS mq_5 tq_5 hS => ?_)
  refine W.widen (k := 5) (n := 36) (Nat.le_of_ble_eq_true rfl) (Nat.le_of_ble_eq_true rfl) ?_
  refine k_pr hx hb hts hown hin hK hKS hS mq_5 tq_5 fq_8_4 rfl rfl rfl rfl (fun i h1 h2 => absurd h2 (by omega)) (fun _ h => by cases h) mw_1_95 dX8_init_37 (fun r1 H locs hKS _ _ hS => ?_)
  refine lv_aload_n hx hb dX8_init_40 rfl (lv_at hl 0 rfl) ?_
  refine lv_bipush (v := 40) hx hb dX8_init_41 (by decide) ?_
  refine k_na (atype := .int) (t := 50) (ki := 1) (a0 := (40, .inl (fun _ => 0))) hx hb hts mw_1_61 rfl (fun C h => by cases h) hK rfl hKS hS hA rfl (fun _ => rfl) (fun j => i0_50 j) (fun _ => rfl) (by decide) rfl (by decide) (Nat.le_of_ble_eq_true rfl) (Nat.le_of_ble_eq_true rfl) dX8_init_43 (fun q_6 L1 T1 r1 σ1 ρ1 H hKS mq_6 tq_6 hS => ?_)
  refine W.widen (k := 6) (n := 76) (Nat.le_of_ble_eq_true rfl) (Nat.le_of_ble_eq_true rfl) ?_
  refine k_pr hx hb hts hown hin hK hKS hS mq_6 tq_6 fq_8_5 rfl rfl rfl rfl (fun i h1 h2 => absurd h2 (by omega)) (fun _ h => by cases h) mw_1_100 dX8_init_45 (fun r1 H locs hKS _ _ hS => ?_)
  exact W.vret hx hb hr (fun t ht hW => ⟨⟨(), rfl, trivial, hKS.end hn_8 hf_8 ht⟩, hS.F ht⟩) hS.2.2 dX8_init_48
theorem hn_100 : ∀ k t : Nat, fT 100 k = some t → k < 6 := fun k t h => match k, h with | 0, h => by decide | 1, h => by decide | 2, h => by decide | 3, h => by decide | 4, h => by decide | 5, h => by decide | 6, h => nomatch h | 7, h => nomatch h | k + 8, h => nomatch h
theorem hf_100 : ∀ j : Nat, (fun _ => (0 : Int32)) j = ini 100 j := fun j => by unfold ini; rw [if_neg (fun h => absurd h.1 (by decide)), if_neg (fun h => absurd h.1 (by decide))]
set_option maxHeartbeats 4000000 in
set_option maxRecDepth 100000 in
theorem kk_X8_init_100 (l : Launch) (D : va_G) (cA : Nat → ClassId) (L : List Nat) (T : Nat → Nat) (r : Rg) (σ : Sg) (ρ : Lg) (hL : L.Nodup) (sz : Nat) (h0 : Nat) (mh0 : h0 ∈ L) (th0 : T h0 = 100) (z0 : ∀ j, σ h0 j = 0) : Met l yX8_init (.code yX8_init cX8_init 1 none :: wsA) ({ frames := 1, cells := 6, slots := 76, locals := 40 }) (PR D cA L T r σ ρ sz [.ref h0]) (va_Qv (fun _ : Unit => True) (fun _ t => KQ D cA L T r σ h0 sz t) (dm L sz)) 6 76 (dm L sz) := by
  refine Met.ofW (cc := cX8_init) (maxL := 1) (ret := none) (by decide) rfl ?_
  intro p e s m args below meth c s₁ B hml hv
  obtain ⟨rfl, hsz, hP, hK, hN⟩ := hv
  have hx := B.exec
  have hb := B.bytes
  have hr := B.returns
  have hts : ∀ w ∈ wsA, w.before _ s = true := fun w h => atoms_spec (ws := .code yX8_init cX8_init 1 none :: wsA) B.pre w (List.mem_cons_of_mem _ h)
  have hown : s.vm.findClass RX8 = some m.cls := findClass_of_methodNamed B.named
  have hin : meth.name = "<init>" := (name_of_methodNamed B.named B.method).1
  subst hsz
  have hKS := KS.begin (sz := s.heap.size) hP ⟨hL, fun a h => Or.inl h⟩ mh0 th0 z0
  have hA : ∀ q : Nat, s.heap.size ≤ q → dm L s.heap.size q := fun q h => Or.inr h
  have hS : va_S (dm L s.heap.size) s.heap s.heap [] := va_S.rf
  have hl := lv_entry ([.ref h0]) (n := 1) (Nat.le_of_ble_eq_true rfl)
  rw [lg_entry_eq]
  generalize (lg_sl ([.ref h0]) ++ List.replicate (1 - (lg_sl ([.ref h0])).length) Slot.unset).toArray = ls at hl ⊢
  have hl : lv_has ls 1 [(0, .ref h0)] := hl
  refine lv_aload_n hx hb dX8_init_0 rfl (lv_at hl 0 rfl) ?_
  refine W.objInit hx hb hown (hts _ mw_1_79) (hts _ mw_1_28) (hts _ mw_1_29) rfl (by rw [hml]; exact hl.1) rfl dX8_init_1 (Nat.le_of_ble_eq_true rfl) (Nat.le_of_ble_eq_true rfl) ?_
  refine W.eq (g2 := F0 m 4 ls []) rfl ?_
  refine lv_aload_n hx hb dX8_init_4 rfl (lv_at hl 0 rfl) ?_
  refine lv_iconst (v := 4) hx hb dX8_init_5 (by decide) ?_
  refine k_na (atype := .int) (t := 107) (ki := 1) (a0 := (4, .inl (fun _ => 0))) hx hb hts mw_1_61 rfl (fun C h => by cases h) hK rfl hKS hS hA rfl (fun _ => rfl) (fun j => i0_107 j) (fun _ => rfl) (by decide) rfl (by decide) (Nat.le_of_ble_eq_true rfl) (Nat.le_of_ble_eq_true rfl) dX8_init_6 (fun q_1 L1 T1 r1 σ1 ρ1 H hKS mq_1 tq_1 hS => ?_)
  refine W.widen (k := 1) (n := 4) (Nat.le_of_ble_eq_true rfl) (Nat.le_of_ble_eq_true rfl) ?_
  refine k_pr hx hb hts hown hin hK hKS hS mq_1 tq_1 fq_100_0 rfl rfl rfl rfl (fun i h1 h2 => absurd h2 (by omega)) (fun _ h => by cases h) mw_1_80 dX8_init_8 (fun r1 H locs hKS _ _ hS => ?_)
  refine lv_aload_n hx hb dX8_init_11 rfl (lv_at hl 0 rfl) ?_
  refine lv_iconst (v := 4) hx hb dX8_init_12 (by decide) ?_
  refine k_na (atype := .int) (t := 108) (ki := 1) (a0 := (4, .inl (fun _ => 0))) hx hb hts mw_1_61 rfl (fun C h => by cases h) hK rfl hKS hS hA rfl (fun _ => rfl) (fun j => i0_108 j) (fun _ => rfl) (by decide) rfl (by decide) (Nat.le_of_ble_eq_true rfl) (Nat.le_of_ble_eq_true rfl) dX8_init_13 (fun q_2 L1 T1 r1 σ1 ρ1 H hKS mq_2 tq_2 hS => ?_)
  refine W.widen (k := 2) (n := 8) (Nat.le_of_ble_eq_true rfl) (Nat.le_of_ble_eq_true rfl) ?_
  refine k_pr hx hb hts hown hin hK hKS hS mq_2 tq_2 fq_100_1 rfl rfl rfl rfl (fun i h1 h2 => absurd h2 (by omega)) (fun _ h => by cases h) mw_1_85 dX8_init_15 (fun r1 H locs hKS _ _ hS => ?_)
  refine lv_aload_n hx hb dX8_init_18 rfl (lv_at hl 0 rfl) ?_
  refine lv_iconst (v := 4) hx hb dX8_init_19 (by decide) ?_
  refine k_na (atype := .int) (t := 109) (ki := 1) (a0 := (4, .inl (fun _ => 0))) hx hb hts mw_1_61 rfl (fun C h => by cases h) hK rfl hKS hS hA rfl (fun _ => rfl) (fun j => i0_109 j) (fun _ => rfl) (by decide) rfl (by decide) (Nat.le_of_ble_eq_true rfl) (Nat.le_of_ble_eq_true rfl) dX8_init_20 (fun q_3 L1 T1 r1 σ1 ρ1 H hKS mq_3 tq_3 hS => ?_)
  refine W.widen (k := 3) (n := 12) (Nat.le_of_ble_eq_true rfl) (Nat.le_of_ble_eq_true rfl) ?_
  refine k_pr hx hb hts hown hin hK hKS hS mq_3 tq_3 fq_100_2 rfl rfl rfl rfl (fun i h1 h2 => absurd h2 (by omega)) (fun _ h => by cases h) mw_1_89 dX8_init_22 (fun r1 H locs hKS _ _ hS => ?_)
  refine lv_aload_n hx hb dX8_init_25 rfl (lv_at hl 0 rfl) ?_
  refine lv_iconst (v := 4) hx hb dX8_init_26 (by decide) ?_
  refine k_na (atype := .int) (t := 110) (ki := 1) (a0 := (4, .inl (fun _ => 0))) hx hb hts mw_1_61 rfl (fun C h => by cases h) hK rfl hKS hS hA rfl (fun _ => rfl) (fun j => i0_110 j) (fun _ => rfl) (by decide) rfl (by decide) (Nat.le_of_ble_eq_true rfl) (Nat.le_of_ble_eq_true rfl) dX8_init_27 (fun q_4 L1 T1 r1 σ1 ρ1 H hKS mq_4 tq_4 hS => ?_)
  refine W.widen (k := 4) (n := 16) (Nat.le_of_ble_eq_true rfl) (Nat.le_of_ble_eq_true rfl) ?_
  refine k_pr hx hb hts hown hin hK hKS hS mq_4 tq_4 fq_100_3 rfl rfl rfl rfl (fun i h1 h2 => absurd h2 (by omega)) (fun _ h => by cases h) mw_1_92 dX8_init_29 (fun r1 H locs hKS _ _ hS => ?_)
  refine lv_aload_n hx hb dX8_init_32 rfl (lv_at hl 0 rfl) ?_
  refine lv_bipush (v := 20) hx hb dX8_init_33 (by decide) ?_
  refine k_na (atype := .int) (t := 111) (ki := 1) (a0 := (20, .inl (fun _ => 0))) hx hb hts mw_1_61 rfl (fun C h => by cases h) hK rfl hKS hS hA rfl (fun _ => rfl) (fun j => i0_111 j) (fun _ => rfl) (by decide) rfl (by decide) (Nat.le_of_ble_eq_true rfl) (Nat.le_of_ble_eq_true rfl) dX8_init_35 (fun q_5 L1 T1 r1 σ1 ρ1 H hKS mq_5 tq_5 hS => ?_)
  refine W.widen (k := 5) (n := 36) (Nat.le_of_ble_eq_true rfl) (Nat.le_of_ble_eq_true rfl) ?_
  refine k_pr hx hb hts hown hin hK hKS hS mq_5 tq_5 fq_100_4 rfl rfl rfl rfl (fun i h1 h2 => absurd h2 (by omega)) (fun _ h => by cases h) mw_1_95 dX8_init_37 (fun r1 H locs hKS _ _ hS => ?_)
  refine lv_aload_n hx hb dX8_init_40 rfl (lv_at hl 0 rfl) ?_
  refine lv_bipush (v := 40) hx hb dX8_init_41 (by decide) ?_
  refine k_na (atype := .int) (t := 112) (ki := 1) (a0 := (40, .inl (fun _ => 0))) hx hb hts mw_1_61 rfl (fun C h => by cases h) hK rfl hKS hS hA rfl (fun _ => rfl) (fun j => i0_112 j) (fun _ => rfl) (by decide) rfl (by decide) (Nat.le_of_ble_eq_true rfl) (Nat.le_of_ble_eq_true rfl) dX8_init_43 (fun q_6 L1 T1 r1 σ1 ρ1 H hKS mq_6 tq_6 hS => ?_)
  refine W.widen (k := 6) (n := 76) (Nat.le_of_ble_eq_true rfl) (Nat.le_of_ble_eq_true rfl) ?_
  refine k_pr hx hb hts hown hin hK hKS hS mq_6 tq_6 fq_100_5 rfl rfl rfl rfl (fun i h1 h2 => absurd h2 (by omega)) (fun _ h => by cases h) mw_1_100 dX8_init_45 (fun r1 H locs hKS _ _ hS => ?_)
  exact W.vret hx hb hr (fun t ht hW => ⟨⟨(), rfl, trivial, hKS.end hn_100 hf_100 ht⟩, hS.F ht⟩) hS.2.2 dX8_init_48
theorem hn_101 : ∀ k t : Nat, fT 101 k = some t → k < 6 := fun k t h => match k, h with | 0, h => by decide | 1, h => by decide | 2, h => by decide | 3, h => by decide | 4, h => by decide | 5, h => by decide | 6, h => nomatch h | 7, h => nomatch h | k + 8, h => nomatch h
theorem hf_101 : ∀ j : Nat, (fun _ => (0 : Int32)) j = ini 101 j := fun j => by unfold ini; rw [if_neg (fun h => absurd h.1 (by decide)), if_neg (fun h => absurd h.1 (by decide))]
set_option maxHeartbeats 4000000 in
set_option maxRecDepth 100000 in
theorem kk_X8_init_101 (l : Launch) (D : va_G) (cA : Nat → ClassId) (L : List Nat) (T : Nat → Nat) (r : Rg) (σ : Sg) (ρ : Lg) (hL : L.Nodup) (sz : Nat) (h0 : Nat) (mh0 : h0 ∈ L) (th0 : T h0 = 101) (z0 : ∀ j, σ h0 j = 0) : Met l yX8_init (.code yX8_init cX8_init 1 none :: wsA) ({ frames := 1, cells := 6, slots := 76, locals := 40 }) (PR D cA L T r σ ρ sz [.ref h0]) (va_Qv (fun _ : Unit => True) (fun _ t => KQ D cA L T r σ h0 sz t) (dm L sz)) 6 76 (dm L sz) := by
  refine Met.ofW (cc := cX8_init) (maxL := 1) (ret := none) (by decide) rfl ?_
  intro p e s m args below meth c s₁ B hml hv
  obtain ⟨rfl, hsz, hP, hK, hN⟩ := hv
  have hx := B.exec
  have hb := B.bytes
  have hr := B.returns
  have hts : ∀ w ∈ wsA, w.before _ s = true := fun w h => atoms_spec (ws := .code yX8_init cX8_init 1 none :: wsA) B.pre w (List.mem_cons_of_mem _ h)
  have hown : s.vm.findClass RX8 = some m.cls := findClass_of_methodNamed B.named
  have hin : meth.name = "<init>" := (name_of_methodNamed B.named B.method).1
  subst hsz
  have hKS := KS.begin (sz := s.heap.size) hP ⟨hL, fun a h => Or.inl h⟩ mh0 th0 z0
  have hA : ∀ q : Nat, s.heap.size ≤ q → dm L s.heap.size q := fun q h => Or.inr h
  have hS : va_S (dm L s.heap.size) s.heap s.heap [] := va_S.rf
  have hl := lv_entry ([.ref h0]) (n := 1) (Nat.le_of_ble_eq_true rfl)
  rw [lg_entry_eq]
  generalize (lg_sl ([.ref h0]) ++ List.replicate (1 - (lg_sl ([.ref h0])).length) Slot.unset).toArray = ls at hl ⊢
  have hl : lv_has ls 1 [(0, .ref h0)] := hl
  refine lv_aload_n hx hb dX8_init_0 rfl (lv_at hl 0 rfl) ?_
  refine W.objInit hx hb hown (hts _ mw_1_79) (hts _ mw_1_28) (hts _ mw_1_29) rfl (by rw [hml]; exact hl.1) rfl dX8_init_1 (Nat.le_of_ble_eq_true rfl) (Nat.le_of_ble_eq_true rfl) ?_
  refine W.eq (g2 := F0 m 4 ls []) rfl ?_
  refine lv_aload_n hx hb dX8_init_4 rfl (lv_at hl 0 rfl) ?_
  refine lv_iconst (v := 4) hx hb dX8_init_5 (by decide) ?_
  refine k_na (atype := .int) (t := 113) (ki := 1) (a0 := (4, .inl (fun _ => 0))) hx hb hts mw_1_61 rfl (fun C h => by cases h) hK rfl hKS hS hA rfl (fun _ => rfl) (fun j => i0_113 j) (fun _ => rfl) (by decide) rfl (by decide) (Nat.le_of_ble_eq_true rfl) (Nat.le_of_ble_eq_true rfl) dX8_init_6 (fun q_1 L1 T1 r1 σ1 ρ1 H hKS mq_1 tq_1 hS => ?_)
  refine W.widen (k := 1) (n := 4) (Nat.le_of_ble_eq_true rfl) (Nat.le_of_ble_eq_true rfl) ?_
  refine k_pr hx hb hts hown hin hK hKS hS mq_1 tq_1 fq_101_0 rfl rfl rfl rfl (fun i h1 h2 => absurd h2 (by omega)) (fun _ h => by cases h) mw_1_80 dX8_init_8 (fun r1 H locs hKS _ _ hS => ?_)
  refine lv_aload_n hx hb dX8_init_11 rfl (lv_at hl 0 rfl) ?_
  refine lv_iconst (v := 4) hx hb dX8_init_12 (by decide) ?_
  refine k_na (atype := .int) (t := 114) (ki := 1) (a0 := (4, .inl (fun _ => 0))) hx hb hts mw_1_61 rfl (fun C h => by cases h) hK rfl hKS hS hA rfl (fun _ => rfl) (fun j => i0_114 j) (fun _ => rfl) (by decide) rfl (by decide) (Nat.le_of_ble_eq_true rfl) (Nat.le_of_ble_eq_true rfl) dX8_init_13 (fun q_2 L1 T1 r1 σ1 ρ1 H hKS mq_2 tq_2 hS => ?_)
  refine W.widen (k := 2) (n := 8) (Nat.le_of_ble_eq_true rfl) (Nat.le_of_ble_eq_true rfl) ?_
  refine k_pr hx hb hts hown hin hK hKS hS mq_2 tq_2 fq_101_1 rfl rfl rfl rfl (fun i h1 h2 => absurd h2 (by omega)) (fun _ h => by cases h) mw_1_85 dX8_init_15 (fun r1 H locs hKS _ _ hS => ?_)
  refine lv_aload_n hx hb dX8_init_18 rfl (lv_at hl 0 rfl) ?_
  refine lv_iconst (v := 4) hx hb dX8_init_19 (by decide) ?_
  refine k_na (atype := .int) (t := 115) (ki := 1) (a0 := (4, .inl (fun _ => 0))) hx hb hts mw_1_61 rfl (fun C h => by cases h) hK rfl hKS hS hA rfl (fun _ => rfl) (fun j => i0_115 j) (fun _ => rfl) (by decide) rfl (by decide) (Nat.le_of_ble_eq_true rfl) (Nat.le_of_ble_eq_true rfl) dX8_init_20 (fun q_3 L1 T1 r1 σ1 ρ1 H hKS mq_3 tq_3 hS => ?_)
  refine W.widen (k := 3) (n := 12) (Nat.le_of_ble_eq_true rfl) (Nat.le_of_ble_eq_true rfl) ?_
  refine k_pr hx hb hts hown hin hK hKS hS mq_3 tq_3 fq_101_2 rfl rfl rfl rfl (fun i h1 h2 => absurd h2 (by omega)) (fun _ h => by cases h) mw_1_89 dX8_init_22 (fun r1 H locs hKS _ _ hS => ?_)
  refine lv_aload_n hx hb dX8_init_25 rfl (lv_at hl 0 rfl) ?_
  refine lv_iconst (v := 4) hx hb dX8_init_26 (by decide) ?_
  refine k_na (atype := .int) (t := 116) (ki := 1) (a0 := (4, .inl (fun _ => 0))) hx hb hts mw_1_61 rfl (fun C h => by cases h) hK rfl hKS hS hA rfl (fun _ => rfl) (fun j => i0_116 j) (fun _ => rfl) (by decide) rfl (by decide) (Nat.le_of_ble_eq_true rfl) (Nat.le_of_ble_eq_true rfl) dX8_init_27 (fun q_4 L1 T1 r1 σ1 ρ1 H hKS mq_4 tq_4 hS => ?_)
  refine W.widen (k := 4) (n := 16) (Nat.le_of_ble_eq_true rfl) (Nat.le_of_ble_eq_true rfl) ?_
  refine k_pr hx hb hts hown hin hK hKS hS mq_4 tq_4 fq_101_3 rfl rfl rfl rfl (fun i h1 h2 => absurd h2 (by omega)) (fun _ h => by cases h) mw_1_92 dX8_init_29 (fun r1 H locs hKS _ _ hS => ?_)
  refine lv_aload_n hx hb dX8_init_32 rfl (lv_at hl 0 rfl) ?_
  refine lv_bipush (v := 20) hx hb dX8_init_33 (by decide) ?_
  refine k_na (atype := .int) (t := 117) (ki := 1) (a0 := (20, .inl (fun _ => 0))) hx hb hts mw_1_61 rfl (fun C h => by cases h) hK rfl hKS hS hA rfl (fun _ => rfl) (fun j => i0_117 j) (fun _ => rfl) (by decide) rfl (by decide) (Nat.le_of_ble_eq_true rfl) (Nat.le_of_ble_eq_true rfl) dX8_init_35 (fun q_5 L1 T1 r1 σ1 ρ1 H hKS mq_5 tq_5 hS => ?_)
  refine W.widen (k := 5) (n := 36) (Nat.le_of_ble_eq_true rfl) (Nat.le_of_ble_eq_true rfl) ?_
  refine k_pr hx hb hts hown hin hK hKS hS mq_5 tq_5 fq_101_4 rfl rfl rfl rfl (fun i h1 h2 => absurd h2 (by omega)) (fun _ h => by cases h) mw_1_95 dX8_init_37 (fun r1 H locs hKS _ _ hS => ?_)
  refine lv_aload_n hx hb dX8_init_40 rfl (lv_at hl 0 rfl) ?_
  refine lv_bipush (v := 40) hx hb dX8_init_41 (by decide) ?_
  refine k_na (atype := .int) (t := 118) (ki := 1) (a0 := (40, .inl (fun _ => 0))) hx hb hts mw_1_61 rfl (fun C h => by cases h) hK rfl hKS hS hA rfl (fun _ => rfl) (fun j => i0_118 j) (fun _ => rfl) (by decide) rfl (by decide) (Nat.le_of_ble_eq_true rfl) (Nat.le_of_ble_eq_true rfl) dX8_init_43 (fun q_6 L1 T1 r1 σ1 ρ1 H hKS mq_6 tq_6 hS => ?_)
  refine W.widen (k := 6) (n := 76) (Nat.le_of_ble_eq_true rfl) (Nat.le_of_ble_eq_true rfl) ?_
  refine k_pr hx hb hts hown hin hK hKS hS mq_6 tq_6 fq_101_5 rfl rfl rfl rfl (fun i h1 h2 => absurd h2 (by omega)) (fun _ h => by cases h) mw_1_100 dX8_init_45 (fun r1 H locs hKS _ _ hS => ?_)
  exact W.vret hx hb hr (fun t ht hW => ⟨⟨(), rfl, trivial, hKS.end hn_101 hf_101 ht⟩, hS.F ht⟩) hS.2.2 dX8_init_48
theorem hn_102 : ∀ k t : Nat, fT 102 k = some t → k < 6 := fun k t h => match k, h with | 0, h => by decide | 1, h => by decide | 2, h => by decide | 3, h => by decide | 4, h => by decide | 5, h => by decide | 6, h => nomatch h | 7, h => nomatch h | k + 8, h => nomatch h
theorem hf_102 : ∀ j : Nat, (fun _ => (0 : Int32)) j = ini 102 j := fun j => by unfold ini; rw [if_neg (fun h => absurd h.1 (by decide)), if_neg (fun h => absurd h.1 (by decide))]
set_option maxHeartbeats 4000000 in
set_option maxRecDepth 100000 in
theorem kk_X8_init_102 (l : Launch) (D : va_G) (cA : Nat → ClassId) (L : List Nat) (T : Nat → Nat) (r : Rg) (σ : Sg) (ρ : Lg) (hL : L.Nodup) (sz : Nat) (h0 : Nat) (mh0 : h0 ∈ L) (th0 : T h0 = 102) (z0 : ∀ j, σ h0 j = 0) : Met l yX8_init (.code yX8_init cX8_init 1 none :: wsA) ({ frames := 1, cells := 6, slots := 76, locals := 40 }) (PR D cA L T r σ ρ sz [.ref h0]) (va_Qv (fun _ : Unit => True) (fun _ t => KQ D cA L T r σ h0 sz t) (dm L sz)) 6 76 (dm L sz) := by
  refine Met.ofW (cc := cX8_init) (maxL := 1) (ret := none) (by decide) rfl ?_
  intro p e s m args below meth c s₁ B hml hv
  obtain ⟨rfl, hsz, hP, hK, hN⟩ := hv
  have hx := B.exec
  have hb := B.bytes
  have hr := B.returns
  have hts : ∀ w ∈ wsA, w.before _ s = true := fun w h => atoms_spec (ws := .code yX8_init cX8_init 1 none :: wsA) B.pre w (List.mem_cons_of_mem _ h)
  have hown : s.vm.findClass RX8 = some m.cls := findClass_of_methodNamed B.named
  have hin : meth.name = "<init>" := (name_of_methodNamed B.named B.method).1
  subst hsz
  have hKS := KS.begin (sz := s.heap.size) hP ⟨hL, fun a h => Or.inl h⟩ mh0 th0 z0
  have hA : ∀ q : Nat, s.heap.size ≤ q → dm L s.heap.size q := fun q h => Or.inr h
  have hS : va_S (dm L s.heap.size) s.heap s.heap [] := va_S.rf
  have hl := lv_entry ([.ref h0]) (n := 1) (Nat.le_of_ble_eq_true rfl)
  rw [lg_entry_eq]
  generalize (lg_sl ([.ref h0]) ++ List.replicate (1 - (lg_sl ([.ref h0])).length) Slot.unset).toArray = ls at hl ⊢
  have hl : lv_has ls 1 [(0, .ref h0)] := hl
  refine lv_aload_n hx hb dX8_init_0 rfl (lv_at hl 0 rfl) ?_
  refine W.objInit hx hb hown (hts _ mw_1_79) (hts _ mw_1_28) (hts _ mw_1_29) rfl (by rw [hml]; exact hl.1) rfl dX8_init_1 (Nat.le_of_ble_eq_true rfl) (Nat.le_of_ble_eq_true rfl) ?_
  refine W.eq (g2 := F0 m 4 ls []) rfl ?_
  refine lv_aload_n hx hb dX8_init_4 rfl (lv_at hl 0 rfl) ?_
  refine lv_iconst (v := 4) hx hb dX8_init_5 (by decide) ?_
  refine k_na (atype := .int) (t := 119) (ki := 1) (a0 := (4, .inl (fun _ => 0))) hx hb hts mw_1_61 rfl (fun C h => by cases h) hK rfl hKS hS hA rfl (fun _ => rfl) (fun j => i0_119 j) (fun _ => rfl) (by decide) rfl (by decide) (Nat.le_of_ble_eq_true rfl) (Nat.le_of_ble_eq_true rfl) dX8_init_6 (fun q_1 L1 T1 r1 σ1 ρ1 H hKS mq_1 tq_1 hS => ?_)
  refine W.widen (k := 1) (n := 4) (Nat.le_of_ble_eq_true rfl) (Nat.le_of_ble_eq_true rfl) ?_
  refine k_pr hx hb hts hown hin hK hKS hS mq_1 tq_1 fq_102_0 rfl rfl rfl rfl (fun i h1 h2 => absurd h2 (by omega)) (fun _ h => by cases h) mw_1_80 dX8_init_8 (fun r1 H locs hKS _ _ hS => ?_)
  refine lv_aload_n hx hb dX8_init_11 rfl (lv_at hl 0 rfl) ?_
  refine lv_iconst (v := 4) hx hb dX8_init_12 (by decide) ?_
  refine k_na (atype := .int) (t := 120) (ki := 1) (a0 := (4, .inl (fun _ => 0))) hx hb hts mw_1_61 rfl (fun C h => by cases h) hK rfl hKS hS hA rfl (fun _ => rfl) (fun j => i0_120 j) (fun _ => rfl) (by decide) rfl (by decide) (Nat.le_of_ble_eq_true rfl) (Nat.le_of_ble_eq_true rfl) dX8_init_13 (fun q_2 L1 T1 r1 σ1 ρ1 H hKS mq_2 tq_2 hS => ?_)
  refine W.widen (k := 2) (n := 8) (Nat.le_of_ble_eq_true rfl) (Nat.le_of_ble_eq_true rfl) ?_
  refine k_pr hx hb hts hown hin hK hKS hS mq_2 tq_2 fq_102_1 rfl rfl rfl rfl (fun i h1 h2 => absurd h2 (by omega)) (fun _ h => by cases h) mw_1_85 dX8_init_15 (fun r1 H locs hKS _ _ hS => ?_)
  refine lv_aload_n hx hb dX8_init_18 rfl (lv_at hl 0 rfl) ?_
  refine lv_iconst (v := 4) hx hb dX8_init_19 (by decide) ?_
  refine k_na (atype := .int) (t := 121) (ki := 1) (a0 := (4, .inl (fun _ => 0))) hx hb hts mw_1_61 rfl (fun C h => by cases h) hK rfl hKS hS hA rfl (fun _ => rfl) (fun j => i0_121 j) (fun _ => rfl) (by decide) rfl (by decide) (Nat.le_of_ble_eq_true rfl) (Nat.le_of_ble_eq_true rfl) dX8_init_20 (fun q_3 L1 T1 r1 σ1 ρ1 H hKS mq_3 tq_3 hS => ?_)
  refine W.widen (k := 3) (n := 12) (Nat.le_of_ble_eq_true rfl) (Nat.le_of_ble_eq_true rfl) ?_
  refine k_pr hx hb hts hown hin hK hKS hS mq_3 tq_3 fq_102_2 rfl rfl rfl rfl (fun i h1 h2 => absurd h2 (by omega)) (fun _ h => by cases h) mw_1_89 dX8_init_22 (fun r1 H locs hKS _ _ hS => ?_)
  refine lv_aload_n hx hb dX8_init_25 rfl (lv_at hl 0 rfl) ?_
  refine lv_iconst (v := 4) hx hb dX8_init_26 (by decide) ?_
  refine k_na (atype := .int) (t := 122) (ki := 1) (a0 := (4, .inl (fun _ => 0))) hx hb hts mw_1_61 rfl (fun C h => by cases h) hK rfl hKS hS hA rfl (fun _ => rfl) (fun j => i0_122 j) (fun _ => rfl) (by decide) rfl (by decide) (Nat.le_of_ble_eq_true rfl) (Nat.le_of_ble_eq_true rfl) dX8_init_27 (fun q_4 L1 T1 r1 σ1 ρ1 H hKS mq_4 tq_4 hS => ?_)
  refine W.widen (k := 4) (n := 16) (Nat.le_of_ble_eq_true rfl) (Nat.le_of_ble_eq_true rfl) ?_
  refine k_pr hx hb hts hown hin hK hKS hS mq_4 tq_4 fq_102_3 rfl rfl rfl rfl (fun i h1 h2 => absurd h2 (by omega)) (fun _ h => by cases h) mw_1_92 dX8_init_29 (fun r1 H locs hKS _ _ hS => ?_)
  refine lv_aload_n hx hb dX8_init_32 rfl (lv_at hl 0 rfl) ?_
  refine lv_bipush (v := 20) hx hb dX8_init_33 (by decide) ?_
  refine k_na (atype := .int) (t := 123) (ki := 1) (a0 := (20, .inl (fun _ => 0))) hx hb hts mw_1_61 rfl (fun C h => by cases h) hK rfl hKS hS hA rfl (fun _ => rfl) (fun j => i0_123 j) (fun _ => rfl) (by decide) rfl (by decide) (Nat.le_of_ble_eq_true rfl) (Nat.le_of_ble_eq_true rfl) dX8_init_35 (fun q_5 L1 T1 r1 σ1 ρ1 H hKS mq_5 tq_5 hS => ?_)
  refine W.widen (k := 5) (n := 36) (Nat.le_of_ble_eq_true rfl) (Nat.le_of_ble_eq_true rfl) ?_
  refine k_pr hx hb hts hown hin hK hKS hS mq_5 tq_5 fq_102_4 rfl rfl rfl rfl (fun i h1 h2 => absurd h2 (by omega)) (fun _ h => by cases h) mw_1_95 dX8_init_37 (fun r1 H locs hKS _ _ hS => ?_)
  refine lv_aload_n hx hb dX8_init_40 rfl (lv_at hl 0 rfl) ?_
  refine lv_bipush (v := 40) hx hb dX8_init_41 (by decide) ?_
  refine k_na (atype := .int) (t := 124) (ki := 1) (a0 := (40, .inl (fun _ => 0))) hx hb hts mw_1_61 rfl (fun C h => by cases h) hK rfl hKS hS hA rfl (fun _ => rfl) (fun j => i0_124 j) (fun _ => rfl) (by decide) rfl (by decide) (Nat.le_of_ble_eq_true rfl) (Nat.le_of_ble_eq_true rfl) dX8_init_43 (fun q_6 L1 T1 r1 σ1 ρ1 H hKS mq_6 tq_6 hS => ?_)
  refine W.widen (k := 6) (n := 76) (Nat.le_of_ble_eq_true rfl) (Nat.le_of_ble_eq_true rfl) ?_
  refine k_pr hx hb hts hown hin hK hKS hS mq_6 tq_6 fq_102_5 rfl rfl rfl rfl (fun i h1 h2 => absurd h2 (by omega)) (fun _ h => by cases h) mw_1_100 dX8_init_45 (fun r1 H locs hKS _ _ hS => ?_)
  exact W.vret hx hb hr (fun t ht hW => ⟨⟨(), rfl, trivial, hKS.end hn_102 hf_102 ht⟩, hS.F ht⟩) hS.2.2 dX8_init_48
theorem hn_103 : ∀ k t : Nat, fT 103 k = some t → k < 6 := fun k t h => match k, h with | 0, h => by decide | 1, h => by decide | 2, h => by decide | 3, h => by decide | 4, h => by decide | 5, h => by decide | 6, h => nomatch h | 7, h => nomatch h | k + 8, h => nomatch h
theorem hf_103 : ∀ j : Nat, (fun _ => (0 : Int32)) j = ini 103 j := fun j => by unfold ini; rw [if_neg (fun h => absurd h.1 (by decide)), if_neg (fun h => absurd h.1 (by decide))]
set_option maxHeartbeats 4000000 in
set_option maxRecDepth 100000 in
theorem kk_X8_init_103 (l : Launch) (D : va_G) (cA : Nat → ClassId) (L : List Nat) (T : Nat → Nat) (r : Rg) (σ : Sg) (ρ : Lg) (hL : L.Nodup) (sz : Nat) (h0 : Nat) (mh0 : h0 ∈ L) (th0 : T h0 = 103) (z0 : ∀ j, σ h0 j = 0) : Met l yX8_init (.code yX8_init cX8_init 1 none :: wsA) ({ frames := 1, cells := 6, slots := 76, locals := 40 }) (PR D cA L T r σ ρ sz [.ref h0]) (va_Qv (fun _ : Unit => True) (fun _ t => KQ D cA L T r σ h0 sz t) (dm L sz)) 6 76 (dm L sz) := by
  refine Met.ofW (cc := cX8_init) (maxL := 1) (ret := none) (by decide) rfl ?_
  intro p e s m args below meth c s₁ B hml hv
  obtain ⟨rfl, hsz, hP, hK, hN⟩ := hv
  have hx := B.exec
  have hb := B.bytes
  have hr := B.returns
  have hts : ∀ w ∈ wsA, w.before _ s = true := fun w h => atoms_spec (ws := .code yX8_init cX8_init 1 none :: wsA) B.pre w (List.mem_cons_of_mem _ h)
  have hown : s.vm.findClass RX8 = some m.cls := findClass_of_methodNamed B.named
  have hin : meth.name = "<init>" := (name_of_methodNamed B.named B.method).1
  subst hsz
  have hKS := KS.begin (sz := s.heap.size) hP ⟨hL, fun a h => Or.inl h⟩ mh0 th0 z0
  have hA : ∀ q : Nat, s.heap.size ≤ q → dm L s.heap.size q := fun q h => Or.inr h
  have hS : va_S (dm L s.heap.size) s.heap s.heap [] := va_S.rf
  have hl := lv_entry ([.ref h0]) (n := 1) (Nat.le_of_ble_eq_true rfl)
  rw [lg_entry_eq]
  generalize (lg_sl ([.ref h0]) ++ List.replicate (1 - (lg_sl ([.ref h0])).length) Slot.unset).toArray = ls at hl ⊢
  have hl : lv_has ls 1 [(0, .ref h0)] := hl
  refine lv_aload_n hx hb dX8_init_0 rfl (lv_at hl 0 rfl) ?_
  refine W.objInit hx hb hown (hts _ mw_1_79) (hts _ mw_1_28) (hts _ mw_1_29) rfl (by rw [hml]; exact hl.1) rfl dX8_init_1 (Nat.le_of_ble_eq_true rfl) (Nat.le_of_ble_eq_true rfl) ?_
  refine W.eq (g2 := F0 m 4 ls []) rfl ?_
  refine lv_aload_n hx hb dX8_init_4 rfl (lv_at hl 0 rfl) ?_
  refine lv_iconst (v := 4) hx hb dX8_init_5 (by decide) ?_
  refine k_na (atype := .int) (t := 125) (ki := 1) (a0 := (4, .inl (fun _ => 0))) hx hb hts mw_1_61 rfl (fun C h => by cases h) hK rfl hKS hS hA rfl (fun _ => rfl) (fun j => i0_125 j) (fun _ => rfl) (by decide) rfl (by decide) (Nat.le_of_ble_eq_true rfl) (Nat.le_of_ble_eq_true rfl) dX8_init_6 (fun q_1 L1 T1 r1 σ1 ρ1 H hKS mq_1 tq_1 hS => ?_)
  refine W.widen (k := 1) (n := 4) (Nat.le_of_ble_eq_true rfl) (Nat.le_of_ble_eq_true rfl) ?_
  refine k_pr hx hb hts hown hin hK hKS hS mq_1 tq_1 fq_103_0 rfl rfl rfl rfl (fun i h1 h2 => absurd h2 (by omega)) (fun _ h => by cases h) mw_1_80 dX8_init_8 (fun r1 H locs hKS _ _ hS => ?_)
  refine lv_aload_n hx hb dX8_init_11 rfl (lv_at hl 0 rfl) ?_
  refine lv_iconst (v := 4) hx hb dX8_init_12 (by decide) ?_
  refine k_na (atype := .int) (t := 126) (ki := 1) (a0 := (4, .inl (fun _ => 0))) hx hb hts mw_1_61 rfl (fun C h => by cases h) hK rfl hKS hS hA rfl (fun _ => rfl) (fun j => i0_126 j) (fun _ => rfl) (by decide) rfl (by decide) (Nat.le_of_ble_eq_true rfl) (Nat.le_of_ble_eq_true rfl) dX8_init_13 (fun q_2 L1 T1 r1 σ1 ρ1 H hKS mq_2 tq_2 hS => ?_)
  refine W.widen (k := 2) (n := 8) (Nat.le_of_ble_eq_true rfl) (Nat.le_of_ble_eq_true rfl) ?_
  refine k_pr hx hb hts hown hin hK hKS hS mq_2 tq_2 fq_103_1 rfl rfl rfl rfl (fun i h1 h2 => absurd h2 (by omega)) (fun _ h => by cases h) mw_1_85 dX8_init_15 (fun r1 H locs hKS _ _ hS => ?_)
  refine lv_aload_n hx hb dX8_init_18 rfl (lv_at hl 0 rfl) ?_
  refine lv_iconst (v := 4) hx hb dX8_init_19 (by decide) ?_
  refine k_na (atype := .int) (t := 127) (ki := 1) (a0 := (4, .inl (fun _ => 0))) hx hb hts mw_1_61 rfl (fun C h => by cases h) hK rfl hKS hS hA rfl (fun _ => rfl) (fun j => i0_127 j) (fun _ => rfl) (by decide) rfl (by decide) (Nat.le_of_ble_eq_true rfl) (Nat.le_of_ble_eq_true rfl) dX8_init_20 (fun q_3 L1 T1 r1 σ1 ρ1 H hKS mq_3 tq_3 hS => ?_)
  refine W.widen (k := 3) (n := 12) (Nat.le_of_ble_eq_true rfl) (Nat.le_of_ble_eq_true rfl) ?_
  refine k_pr hx hb hts hown hin hK hKS hS mq_3 tq_3 fq_103_2 rfl rfl rfl rfl (fun i h1 h2 => absurd h2 (by omega)) (fun _ h => by cases h) mw_1_89 dX8_init_22 (fun r1 H locs hKS _ _ hS => ?_)
  refine lv_aload_n hx hb dX8_init_25 rfl (lv_at hl 0 rfl) ?_
  refine lv_iconst (v := 4) hx hb dX8_init_26 (by decide) ?_
  refine k_na (atype := .int) (t := 128) (ki := 1) (a0 := (4, .inl (fun _ => 0))) hx hb hts mw_1_61 rfl (fun C h => by cases h) hK rfl hKS hS hA rfl (fun _ => rfl) (fun j => i0_128 j) (fun _ => rfl) (by decide) rfl (by decide) (Nat.le_of_ble_eq_true rfl) (Nat.le_of_ble_eq_true rfl) dX8_init_27 (fun q_4 L1 T1 r1 σ1 ρ1 H hKS mq_4 tq_4 hS => ?_)
  refine W.widen (k := 4) (n := 16) (Nat.le_of_ble_eq_true rfl) (Nat.le_of_ble_eq_true rfl) ?_
  refine k_pr hx hb hts hown hin hK hKS hS mq_4 tq_4 fq_103_3 rfl rfl rfl rfl (fun i h1 h2 => absurd h2 (by omega)) (fun _ h => by cases h) mw_1_92 dX8_init_29 (fun r1 H locs hKS _ _ hS => ?_)
  refine lv_aload_n hx hb dX8_init_32 rfl (lv_at hl 0 rfl) ?_
  refine lv_bipush (v := 20) hx hb dX8_init_33 (by decide) ?_
  refine k_na (atype := .int) (t := 129) (ki := 1) (a0 := (20, .inl (fun _ => 0))) hx hb hts mw_1_61 rfl (fun C h => by cases h) hK rfl hKS hS hA rfl (fun _ => rfl) (fun j => i0_129 j) (fun _ => rfl) (by decide) rfl (by decide) (Nat.le_of_ble_eq_true rfl) (Nat.le_of_ble_eq_true rfl) dX8_init_35 (fun q_5 L1 T1 r1 σ1 ρ1 H hKS mq_5 tq_5 hS => ?_)
  refine W.widen (k := 5) (n := 36) (Nat.le_of_ble_eq_true rfl) (Nat.le_of_ble_eq_true rfl) ?_
  refine k_pr hx hb hts hown hin hK hKS hS mq_5 tq_5 fq_103_4 rfl rfl rfl rfl (fun i h1 h2 => absurd h2 (by omega)) (fun _ h => by cases h) mw_1_95 dX8_init_37 (fun r1 H locs hKS _ _ hS => ?_)
  refine lv_aload_n hx hb dX8_init_40 rfl (lv_at hl 0 rfl) ?_
  refine lv_bipush (v := 40) hx hb dX8_init_41 (by decide) ?_
  refine k_na (atype := .int) (t := 130) (ki := 1) (a0 := (40, .inl (fun _ => 0))) hx hb hts mw_1_61 rfl (fun C h => by cases h) hK rfl hKS hS hA rfl (fun _ => rfl) (fun j => i0_130 j) (fun _ => rfl) (by decide) rfl (by decide) (Nat.le_of_ble_eq_true rfl) (Nat.le_of_ble_eq_true rfl) dX8_init_43 (fun q_6 L1 T1 r1 σ1 ρ1 H hKS mq_6 tq_6 hS => ?_)
  refine W.widen (k := 6) (n := 76) (Nat.le_of_ble_eq_true rfl) (Nat.le_of_ble_eq_true rfl) ?_
  refine k_pr hx hb hts hown hin hK hKS hS mq_6 tq_6 fq_103_5 rfl rfl rfl rfl (fun i h1 h2 => absurd h2 (by omega)) (fun _ h => by cases h) mw_1_100 dX8_init_45 (fun r1 H locs hKS _ _ hS => ?_)
  exact W.vret hx hb hr (fun t ht hW => ⟨⟨(), rfl, trivial, hKS.end hn_103 hf_103 ht⟩, hS.F ht⟩) hS.2.2 dX8_init_48
theorem hn_104 : ∀ k t : Nat, fT 104 k = some t → k < 6 := fun k t h => match k, h with | 0, h => by decide | 1, h => by decide | 2, h => by decide | 3, h => by decide | 4, h => by decide | 5, h => by decide | 6, h => nomatch h | 7, h => nomatch h | k + 8, h => nomatch h
theorem hf_104 : ∀ j : Nat, (fun _ => (0 : Int32)) j = ini 104 j := fun j => by unfold ini; rw [if_neg (fun h => absurd h.1 (by decide)), if_neg (fun h => absurd h.1 (by decide))]
set_option maxHeartbeats 4000000 in
set_option maxRecDepth 100000 in
theorem kk_X8_init_104 (l : Launch) (D : va_G) (cA : Nat → ClassId) (L : List Nat) (T : Nat → Nat) (r : Rg) (σ : Sg) (ρ : Lg) (hL : L.Nodup) (sz : Nat) (h0 : Nat) (mh0 : h0 ∈ L) (th0 : T h0 = 104) (z0 : ∀ j, σ h0 j = 0) : Met l yX8_init (.code yX8_init cX8_init 1 none :: wsA) ({ frames := 1, cells := 6, slots := 76, locals := 40 }) (PR D cA L T r σ ρ sz [.ref h0]) (va_Qv (fun _ : Unit => True) (fun _ t => KQ D cA L T r σ h0 sz t) (dm L sz)) 6 76 (dm L sz) := by
  refine Met.ofW (cc := cX8_init) (maxL := 1) (ret := none) (by decide) rfl ?_
  intro p e s m args below meth c s₁ B hml hv
  obtain ⟨rfl, hsz, hP, hK, hN⟩ := hv
  have hx := B.exec
  have hb := B.bytes
  have hr := B.returns
  have hts : ∀ w ∈ wsA, w.before _ s = true := fun w h => atoms_spec (ws := .code yX8_init cX8_init 1 none :: wsA) B.pre w (List.mem_cons_of_mem _ h)
  have hown : s.vm.findClass RX8 = some m.cls := findClass_of_methodNamed B.named
  have hin : meth.name = "<init>" := (name_of_methodNamed B.named B.method).1
  subst hsz
  have hKS := KS.begin (sz := s.heap.size) hP ⟨hL, fun a h => Or.inl h⟩ mh0 th0 z0
  have hA : ∀ q : Nat, s.heap.size ≤ q → dm L s.heap.size q := fun q h => Or.inr h
  have hS : va_S (dm L s.heap.size) s.heap s.heap [] := va_S.rf
  have hl := lv_entry ([.ref h0]) (n := 1) (Nat.le_of_ble_eq_true rfl)
  rw [lg_entry_eq]
  generalize (lg_sl ([.ref h0]) ++ List.replicate (1 - (lg_sl ([.ref h0])).length) Slot.unset).toArray = ls at hl ⊢
  have hl : lv_has ls 1 [(0, .ref h0)] := hl
  refine lv_aload_n hx hb dX8_init_0 rfl (lv_at hl 0 rfl) ?_
  refine W.objInit hx hb hown (hts _ mw_1_79) (hts _ mw_1_28) (hts _ mw_1_29) rfl (by rw [hml]; exact hl.1) rfl dX8_init_1 (Nat.le_of_ble_eq_true rfl) (Nat.le_of_ble_eq_true rfl) ?_
  refine W.eq (g2 := F0 m 4 ls []) rfl ?_
  refine lv_aload_n hx hb dX8_init_4 rfl (lv_at hl 0 rfl) ?_
  refine lv_iconst (v := 4) hx hb dX8_init_5 (by decide) ?_
  refine k_na (atype := .int) (t := 131) (ki := 1) (a0 := (4, .inl (fun _ => 0))) hx hb hts mw_1_61 rfl (fun C h => by cases h) hK rfl hKS hS hA rfl (fun _ => rfl) (fun j => i0_131 j) (fun _ => rfl) (by decide) rfl (by decide) (Nat.le_of_ble_eq_true rfl) (Nat.le_of_ble_eq_true rfl) dX8_init_6 (fun q_1 L1 T1 r1 σ1 ρ1 H hKS mq_1 tq_1 hS => ?_)
  refine W.widen (k := 1) (n := 4) (Nat.le_of_ble_eq_true rfl) (Nat.le_of_ble_eq_true rfl) ?_
  refine k_pr hx hb hts hown hin hK hKS hS mq_1 tq_1 fq_104_0 rfl rfl rfl rfl (fun i h1 h2 => absurd h2 (by omega)) (fun _ h => by cases h) mw_1_80 dX8_init_8 (fun r1 H locs hKS _ _ hS => ?_)
  refine lv_aload_n hx hb dX8_init_11 rfl (lv_at hl 0 rfl) ?_
  refine lv_iconst (v := 4) hx hb dX8_init_12 (by decide) ?_
  refine k_na (atype := .int) (t := 132) (ki := 1) (a0 := (4, .inl (fun _ => 0))) hx hb hts mw_1_61 rfl (fun C h => by cases h) hK rfl hKS hS hA rfl (fun _ => rfl) (fun j => i0_132 j) (fun _ => rfl) (by decide) rfl (by decide) (Nat.le_of_ble_eq_true rfl) (Nat.le_of_ble_eq_true rfl) dX8_init_13 (fun q_2 L1 T1 r1 σ1 ρ1 H hKS mq_2 tq_2 hS => ?_)
  refine W.widen (k := 2) (n := 8) (Nat.le_of_ble_eq_true rfl) (Nat.le_of_ble_eq_true rfl) ?_
  refine k_pr hx hb hts hown hin hK hKS hS mq_2 tq_2 fq_104_1 rfl rfl rfl rfl (fun i h1 h2 => absurd h2 (by omega)) (fun _ h => by cases h) mw_1_85 dX8_init_15 (fun r1 H locs hKS _ _ hS => ?_)
  refine lv_aload_n hx hb dX8_init_18 rfl (lv_at hl 0 rfl) ?_
  refine lv_iconst (v := 4) hx hb dX8_init_19 (by decide) ?_
  refine k_na (atype := .int) (t := 133) (ki := 1) (a0 := (4, .inl (fun _ => 0))) hx hb hts mw_1_61 rfl (fun C h => by cases h) hK rfl hKS hS hA rfl (fun _ => rfl) (fun j => i0_133 j) (fun _ => rfl) (by decide) rfl (by decide) (Nat.le_of_ble_eq_true rfl) (Nat.le_of_ble_eq_true rfl) dX8_init_20 (fun q_3 L1 T1 r1 σ1 ρ1 H hKS mq_3 tq_3 hS => ?_)
  refine W.widen (k := 3) (n := 12) (Nat.le_of_ble_eq_true rfl) (Nat.le_of_ble_eq_true rfl) ?_
  refine k_pr hx hb hts hown hin hK hKS hS mq_3 tq_3 fq_104_2 rfl rfl rfl rfl (fun i h1 h2 => absurd h2 (by omega)) (fun _ h => by cases h) mw_1_89 dX8_init_22 (fun r1 H locs hKS _ _ hS => ?_)
  refine lv_aload_n hx hb dX8_init_25 rfl (lv_at hl 0 rfl) ?_
  refine lv_iconst (v := 4) hx hb dX8_init_26 (by decide) ?_
  refine k_na (atype := .int) (t := 134) (ki := 1) (a0 := (4, .inl (fun _ => 0))) hx hb hts mw_1_61 rfl (fun C h => by cases h) hK rfl hKS hS hA rfl (fun _ => rfl) (fun j => i0_134 j) (fun _ => rfl) (by decide) rfl (by decide) (Nat.le_of_ble_eq_true rfl) (Nat.le_of_ble_eq_true rfl) dX8_init_27 (fun q_4 L1 T1 r1 σ1 ρ1 H hKS mq_4 tq_4 hS => ?_)
  refine W.widen (k := 4) (n := 16) (Nat.le_of_ble_eq_true rfl) (Nat.le_of_ble_eq_true rfl) ?_
  refine k_pr hx hb hts hown hin hK hKS hS mq_4 tq_4 fq_104_3 rfl rfl rfl rfl (fun i h1 h2 => absurd h2 (by omega)) (fun _ h => by cases h) mw_1_92 dX8_init_29 (fun r1 H locs hKS _ _ hS => ?_)
  refine lv_aload_n hx hb dX8_init_32 rfl (lv_at hl 0 rfl) ?_
  refine lv_bipush (v := 20) hx hb dX8_init_33 (by decide) ?_
  refine k_na (atype := .int) (t := 135) (ki := 1) (a0 := (20, .inl (fun _ => 0))) hx hb hts mw_1_61 rfl (fun C h => by cases h) hK rfl hKS hS hA rfl (fun _ => rfl) (fun j => i0_135 j) (fun _ => rfl) (by decide) rfl (by decide) (Nat.le_of_ble_eq_true rfl) (Nat.le_of_ble_eq_true rfl) dX8_init_35 (fun q_5 L1 T1 r1 σ1 ρ1 H hKS mq_5 tq_5 hS => ?_)
  refine W.widen (k := 5) (n := 36) (Nat.le_of_ble_eq_true rfl) (Nat.le_of_ble_eq_true rfl) ?_
  refine k_pr hx hb hts hown hin hK hKS hS mq_5 tq_5 fq_104_4 rfl rfl rfl rfl (fun i h1 h2 => absurd h2 (by omega)) (fun _ h => by cases h) mw_1_95 dX8_init_37 (fun r1 H locs hKS _ _ hS => ?_)
  refine lv_aload_n hx hb dX8_init_40 rfl (lv_at hl 0 rfl) ?_
  refine lv_bipush (v := 40) hx hb dX8_init_41 (by decide) ?_
  refine k_na (atype := .int) (t := 136) (ki := 1) (a0 := (40, .inl (fun _ => 0))) hx hb hts mw_1_61 rfl (fun C h => by cases h) hK rfl hKS hS hA rfl (fun _ => rfl) (fun j => i0_136 j) (fun _ => rfl) (by decide) rfl (by decide) (Nat.le_of_ble_eq_true rfl) (Nat.le_of_ble_eq_true rfl) dX8_init_43 (fun q_6 L1 T1 r1 σ1 ρ1 H hKS mq_6 tq_6 hS => ?_)
  refine W.widen (k := 6) (n := 76) (Nat.le_of_ble_eq_true rfl) (Nat.le_of_ble_eq_true rfl) ?_
  refine k_pr hx hb hts hown hin hK hKS hS mq_6 tq_6 fq_104_5 rfl rfl rfl rfl (fun i h1 h2 => absurd h2 (by omega)) (fun _ h => by cases h) mw_1_100 dX8_init_45 (fun r1 H locs hKS _ _ hS => ?_)
  exact W.vret hx hb hr (fun t ht hW => ⟨⟨(), rfl, trivial, hKS.end hn_104 hf_104 ht⟩, hS.F ht⟩) hS.2.2 dX8_init_48
theorem hn_105 : ∀ k t : Nat, fT 105 k = some t → k < 6 := fun k t h => match k, h with | 0, h => by decide | 1, h => by decide | 2, h => by decide | 3, h => by decide | 4, h => by decide | 5, h => by decide | 6, h => nomatch h | 7, h => nomatch h | k + 8, h => nomatch h
theorem hf_105 : ∀ j : Nat, (fun _ => (0 : Int32)) j = ini 105 j := fun j => by unfold ini; rw [if_neg (fun h => absurd h.1 (by decide)), if_neg (fun h => absurd h.1 (by decide))]
set_option maxHeartbeats 4000000 in
set_option maxRecDepth 100000 in
theorem kk_X8_init_105 (l : Launch) (D : va_G) (cA : Nat → ClassId) (L : List Nat) (T : Nat → Nat) (r : Rg) (σ : Sg) (ρ : Lg) (hL : L.Nodup) (sz : Nat) (h0 : Nat) (mh0 : h0 ∈ L) (th0 : T h0 = 105) (z0 : ∀ j, σ h0 j = 0) : Met l yX8_init (.code yX8_init cX8_init 1 none :: wsA) ({ frames := 1, cells := 6, slots := 76, locals := 40 }) (PR D cA L T r σ ρ sz [.ref h0]) (va_Qv (fun _ : Unit => True) (fun _ t => KQ D cA L T r σ h0 sz t) (dm L sz)) 6 76 (dm L sz) := by
  refine Met.ofW (cc := cX8_init) (maxL := 1) (ret := none) (by decide) rfl ?_
  intro p e s m args below meth c s₁ B hml hv
  obtain ⟨rfl, hsz, hP, hK, hN⟩ := hv
  have hx := B.exec
  have hb := B.bytes
  have hr := B.returns
  have hts : ∀ w ∈ wsA, w.before _ s = true := fun w h => atoms_spec (ws := .code yX8_init cX8_init 1 none :: wsA) B.pre w (List.mem_cons_of_mem _ h)
  have hown : s.vm.findClass RX8 = some m.cls := findClass_of_methodNamed B.named
  have hin : meth.name = "<init>" := (name_of_methodNamed B.named B.method).1
  subst hsz
  have hKS := KS.begin (sz := s.heap.size) hP ⟨hL, fun a h => Or.inl h⟩ mh0 th0 z0
  have hA : ∀ q : Nat, s.heap.size ≤ q → dm L s.heap.size q := fun q h => Or.inr h
  have hS : va_S (dm L s.heap.size) s.heap s.heap [] := va_S.rf
  have hl := lv_entry ([.ref h0]) (n := 1) (Nat.le_of_ble_eq_true rfl)
  rw [lg_entry_eq]
  generalize (lg_sl ([.ref h0]) ++ List.replicate (1 - (lg_sl ([.ref h0])).length) Slot.unset).toArray = ls at hl ⊢
  have hl : lv_has ls 1 [(0, .ref h0)] := hl
  refine lv_aload_n hx hb dX8_init_0 rfl (lv_at hl 0 rfl) ?_
  refine W.objInit hx hb hown (hts _ mw_1_79) (hts _ mw_1_28) (hts _ mw_1_29) rfl (by rw [hml]; exact hl.1) rfl dX8_init_1 (Nat.le_of_ble_eq_true rfl) (Nat.le_of_ble_eq_true rfl) ?_
  refine W.eq (g2 := F0 m 4 ls []) rfl ?_
  refine lv_aload_n hx hb dX8_init_4 rfl (lv_at hl 0 rfl) ?_
  refine lv_iconst (v := 4) hx hb dX8_init_5 (by decide) ?_
  refine k_na (atype := .int) (t := 137) (ki := 1) (a0 := (4, .inl (fun _ => 0))) hx hb hts mw_1_61 rfl (fun C h => by cases h) hK rfl hKS hS hA rfl (fun _ => rfl) (fun j => i0_137 j) (fun _ => rfl) (by decide) rfl (by decide) (Nat.le_of_ble_eq_true rfl) (Nat.le_of_ble_eq_true rfl) dX8_init_6 (fun q_1 L1 T1 r1 σ1 ρ1 H hKS mq_1 tq_1 hS => ?_)
  refine W.widen (k := 1) (n := 4) (Nat.le_of_ble_eq_true rfl) (Nat.le_of_ble_eq_true rfl) ?_
  refine k_pr hx hb hts hown hin hK hKS hS mq_1 tq_1 fq_105_0 rfl rfl rfl rfl (fun i h1 h2 => absurd h2 (by omega)) (fun _ h => by cases h) mw_1_80 dX8_init_8 (fun r1 H locs hKS _ _ hS => ?_)
  refine lv_aload_n hx hb dX8_init_11 rfl (lv_at hl 0 rfl) ?_
  refine lv_iconst (v := 4) hx hb dX8_init_12 (by decide) ?_
  refine k_na (atype := .int) (t := 138) (ki := 1) (a0 := (4, .inl (fun _ => 0))) hx hb hts mw_1_61 rfl (fun C h => by cases h) hK rfl hKS hS hA rfl (fun _ => rfl) (fun j => i0_138 j) (fun _ => rfl) (by decide) rfl (by decide) (Nat.le_of_ble_eq_true rfl) (Nat.le_of_ble_eq_true rfl) dX8_init_13 (fun q_2 L1 T1 r1 σ1 ρ1 H hKS mq_2 tq_2 hS => ?_)
  refine W.widen (k := 2) (n := 8) (Nat.le_of_ble_eq_true rfl) (Nat.le_of_ble_eq_true rfl) ?_
  refine k_pr hx hb hts hown hin hK hKS hS mq_2 tq_2 fq_105_1 rfl rfl rfl rfl (fun i h1 h2 => absurd h2 (by omega)) (fun _ h => by cases h) mw_1_85 dX8_init_15 (fun r1 H locs hKS _ _ hS => ?_)
  refine lv_aload_n hx hb dX8_init_18 rfl (lv_at hl 0 rfl) ?_
  refine lv_iconst (v := 4) hx hb dX8_init_19 (by decide) ?_
  refine k_na (atype := .int) (t := 139) (ki := 1) (a0 := (4, .inl (fun _ => 0))) hx hb hts mw_1_61 rfl (fun C h => by cases h) hK rfl hKS hS hA rfl (fun _ => rfl) (fun j => i0_139 j) (fun _ => rfl) (by decide) rfl (by decide) (Nat.le_of_ble_eq_true rfl) (Nat.le_of_ble_eq_true rfl) dX8_init_20 (fun q_3 L1 T1 r1 σ1 ρ1 H hKS mq_3 tq_3 hS => ?_)
  refine W.widen (k := 3) (n := 12) (Nat.le_of_ble_eq_true rfl) (Nat.le_of_ble_eq_true rfl) ?_
  refine k_pr hx hb hts hown hin hK hKS hS mq_3 tq_3 fq_105_2 rfl rfl rfl rfl (fun i h1 h2 => absurd h2 (by omega)) (fun _ h => by cases h) mw_1_89 dX8_init_22 (fun r1 H locs hKS _ _ hS => ?_)
  refine lv_aload_n hx hb dX8_init_25 rfl (lv_at hl 0 rfl) ?_
  refine lv_iconst (v := 4) hx hb dX8_init_26 (by decide) ?_
  refine k_na (atype := .int) (t := 140) (ki := 1) (a0 := (4, .inl (fun _ => 0))) hx hb hts mw_1_61 rfl (fun C h => by cases h) hK rfl hKS hS hA rfl (fun _ => rfl) (fun j => i0_140 j) (fun _ => rfl) (by decide) rfl (by decide) (Nat.le_of_ble_eq_true rfl) (Nat.le_of_ble_eq_true rfl) dX8_init_27 (fun q_4 L1 T1 r1 σ1 ρ1 H hKS mq_4 tq_4 hS => ?_)
  refine W.widen (k := 4) (n := 16) (Nat.le_of_ble_eq_true rfl) (Nat.le_of_ble_eq_true rfl) ?_
  refine k_pr hx hb hts hown hin hK hKS hS mq_4 tq_4 fq_105_3 rfl rfl rfl rfl (fun i h1 h2 => absurd h2 (by omega)) (fun _ h => by cases h) mw_1_92 dX8_init_29 (fun r1 H locs hKS _ _ hS => ?_)
  refine lv_aload_n hx hb dX8_init_32 rfl (lv_at hl 0 rfl) ?_
  refine lv_bipush (v := 20) hx hb dX8_init_33 (by decide) ?_
  refine k_na (atype := .int) (t := 141) (ki := 1) (a0 := (20, .inl (fun _ => 0))) hx hb hts mw_1_61 rfl (fun C h => by cases h) hK rfl hKS hS hA rfl (fun _ => rfl) (fun j => i0_141 j) (fun _ => rfl) (by decide) rfl (by decide) (Nat.le_of_ble_eq_true rfl) (Nat.le_of_ble_eq_true rfl) dX8_init_35 (fun q_5 L1 T1 r1 σ1 ρ1 H hKS mq_5 tq_5 hS => ?_)
  refine W.widen (k := 5) (n := 36) (Nat.le_of_ble_eq_true rfl) (Nat.le_of_ble_eq_true rfl) ?_
  refine k_pr hx hb hts hown hin hK hKS hS mq_5 tq_5 fq_105_4 rfl rfl rfl rfl (fun i h1 h2 => absurd h2 (by omega)) (fun _ h => by cases h) mw_1_95 dX8_init_37 (fun r1 H locs hKS _ _ hS => ?_)
  refine lv_aload_n hx hb dX8_init_40 rfl (lv_at hl 0 rfl) ?_
  refine lv_bipush (v := 40) hx hb dX8_init_41 (by decide) ?_
  refine k_na (atype := .int) (t := 142) (ki := 1) (a0 := (40, .inl (fun _ => 0))) hx hb hts mw_1_61 rfl (fun C h => by cases h) hK rfl hKS hS hA rfl (fun _ => rfl) (fun j => i0_142 j) (fun _ => rfl) (by decide) rfl (by decide) (Nat.le_of_ble_eq_true rfl) (Nat.le_of_ble_eq_true rfl) dX8_init_43 (fun q_6 L1 T1 r1 σ1 ρ1 H hKS mq_6 tq_6 hS => ?_)
  refine W.widen (k := 6) (n := 76) (Nat.le_of_ble_eq_true rfl) (Nat.le_of_ble_eq_true rfl) ?_
  refine k_pr hx hb hts hown hin hK hKS hS mq_6 tq_6 fq_105_5 rfl rfl rfl rfl (fun i h1 h2 => absurd h2 (by omega)) (fun _ h => by cases h) mw_1_100 dX8_init_45 (fun r1 H locs hKS _ _ hS => ?_)
  exact W.vret hx hb hr (fun t ht hW => ⟨⟨(), rfl, trivial, hKS.end hn_105 hf_105 ht⟩, hS.F ht⟩) hS.2.2 dX8_init_48
theorem hn_106 : ∀ k t : Nat, fT 106 k = some t → k < 6 := fun k t h => match k, h with | 0, h => by decide | 1, h => by decide | 2, h => by decide | 3, h => by decide | 4, h => by decide | 5, h => by decide | 6, h => nomatch h | 7, h => nomatch h | k + 8, h => nomatch h
theorem hf_106 : ∀ j : Nat, (fun _ => (0 : Int32)) j = ini 106 j := fun j => by unfold ini; rw [if_neg (fun h => absurd h.1 (by decide)), if_neg (fun h => absurd h.1 (by decide))]
set_option maxHeartbeats 4000000 in
set_option maxRecDepth 100000 in
theorem kk_X8_init_106 (l : Launch) (D : va_G) (cA : Nat → ClassId) (L : List Nat) (T : Nat → Nat) (r : Rg) (σ : Sg) (ρ : Lg) (hL : L.Nodup) (sz : Nat) (h0 : Nat) (mh0 : h0 ∈ L) (th0 : T h0 = 106) (z0 : ∀ j, σ h0 j = 0) : Met l yX8_init (.code yX8_init cX8_init 1 none :: wsA) ({ frames := 1, cells := 6, slots := 76, locals := 40 }) (PR D cA L T r σ ρ sz [.ref h0]) (va_Qv (fun _ : Unit => True) (fun _ t => KQ D cA L T r σ h0 sz t) (dm L sz)) 6 76 (dm L sz) := by
  refine Met.ofW (cc := cX8_init) (maxL := 1) (ret := none) (by decide) rfl ?_
  intro p e s m args below meth c s₁ B hml hv
  obtain ⟨rfl, hsz, hP, hK, hN⟩ := hv
  have hx := B.exec
  have hb := B.bytes
  have hr := B.returns
  have hts : ∀ w ∈ wsA, w.before _ s = true := fun w h => atoms_spec (ws := .code yX8_init cX8_init 1 none :: wsA) B.pre w (List.mem_cons_of_mem _ h)
  have hown : s.vm.findClass RX8 = some m.cls := findClass_of_methodNamed B.named
  have hin : meth.name = "<init>" := (name_of_methodNamed B.named B.method).1
  subst hsz
  have hKS := KS.begin (sz := s.heap.size) hP ⟨hL, fun a h => Or.inl h⟩ mh0 th0 z0
  have hA : ∀ q : Nat, s.heap.size ≤ q → dm L s.heap.size q := fun q h => Or.inr h
  have hS : va_S (dm L s.heap.size) s.heap s.heap [] := va_S.rf
  have hl := lv_entry ([.ref h0]) (n := 1) (Nat.le_of_ble_eq_true rfl)
  rw [lg_entry_eq]
  generalize (lg_sl ([.ref h0]) ++ List.replicate (1 - (lg_sl ([.ref h0])).length) Slot.unset).toArray = ls at hl ⊢
  have hl : lv_has ls 1 [(0, .ref h0)] := hl
  refine lv_aload_n hx hb dX8_init_0 rfl (lv_at hl 0 rfl) ?_
  refine W.objInit hx hb hown (hts _ mw_1_79) (hts _ mw_1_28) (hts _ mw_1_29) rfl (by rw [hml]; exact hl.1) rfl dX8_init_1 (Nat.le_of_ble_eq_true rfl) (Nat.le_of_ble_eq_true rfl) ?_
  refine W.eq (g2 := F0 m 4 ls []) rfl ?_
  refine lv_aload_n hx hb dX8_init_4 rfl (lv_at hl 0 rfl) ?_
  refine lv_iconst (v := 4) hx hb dX8_init_5 (by decide) ?_
  refine k_na (atype := .int) (t := 143) (ki := 1) (a0 := (4, .inl (fun _ => 0))) hx hb hts mw_1_61 rfl (fun C h => by cases h) hK rfl hKS hS hA rfl (fun _ => rfl) (fun j => i0_143 j) (fun _ => rfl) (by decide) rfl (by decide) (Nat.le_of_ble_eq_true rfl) (Nat.le_of_ble_eq_true rfl) dX8_init_6 (fun q_1 L1 T1 r1 σ1 ρ1 H hKS mq_1 tq_1 hS => ?_)
  refine W.widen (k := 1) (n := 4) (Nat.le_of_ble_eq_true rfl) (Nat.le_of_ble_eq_true rfl) ?_
  refine k_pr hx hb hts hown hin hK hKS hS mq_1 tq_1 fq_106_0 rfl rfl rfl rfl (fun i h1 h2 => absurd h2 (by omega)) (fun _ h => by cases h) mw_1_80 dX8_init_8 (fun r1 H locs hKS _ _ hS => ?_)
  refine lv_aload_n hx hb dX8_init_11 rfl (lv_at hl 0 rfl) ?_
  refine lv_iconst (v := 4) hx hb dX8_init_12 (by decide) ?_
  refine k_na (atype := .int) (t := 144) (ki := 1) (a0 := (4, .inl (fun _ => 0))) hx hb hts mw_1_61 rfl (fun C h => by cases h) hK rfl hKS hS hA rfl (fun _ => rfl) (fun j => i0_144 j) (fun _ => rfl) (by decide) rfl (by decide) (Nat.le_of_ble_eq_true rfl) (Nat.le_of_ble_eq_true rfl) dX8_init_13 (fun q_2 L1 T1 r1 σ1 ρ1 H hKS mq_2 tq_2 hS => ?_)
  refine W.widen (k := 2) (n := 8) (Nat.le_of_ble_eq_true rfl) (Nat.le_of_ble_eq_true rfl) ?_
  refine k_pr hx hb hts hown hin hK hKS hS mq_2 tq_2 fq_106_1 rfl rfl rfl rfl (fun i h1 h2 => absurd h2 (by omega)) (fun _ h => by cases h) mw_1_85 dX8_init_15 (fun r1 H locs hKS _ _ hS => ?_)
  refine lv_aload_n hx hb dX8_init_18 rfl (lv_at hl 0 rfl) ?_
  refine lv_iconst (v := 4) hx hb dX8_init_19 (by decide) ?_
  refine k_na (atype := .int) (t := 145) (ki := 1) (a0 := (4, .inl (fun _ => 0))) hx hb hts mw_1_61 rfl (fun C h => by cases h) hK rfl hKS hS hA rfl (fun _ => rfl) (fun j => i0_145 j) (fun _ => rfl) (by decide) rfl (by decide) (Nat.le_of_ble_eq_true rfl) (Nat.le_of_ble_eq_true rfl) dX8_init_20 (fun q_3 L1 T1 r1 σ1 ρ1 H hKS mq_3 tq_3 hS => ?_)
  refine W.widen (k := 3) (n := 12) (Nat.le_of_ble_eq_true rfl) (Nat.le_of_ble_eq_true rfl) ?_
  refine k_pr hx hb hts hown hin hK hKS hS mq_3 tq_3 fq_106_2 rfl rfl rfl rfl (fun i h1 h2 => absurd h2 (by omega)) (fun _ h => by cases h) mw_1_89 dX8_init_22 (fun r1 H locs hKS _ _ hS => ?_)
  refine lv_aload_n hx hb dX8_init_25 rfl (lv_at hl 0 rfl) ?_
  refine lv_iconst (v := 4) hx hb dX8_init_26 (by decide) ?_
  refine k_na (atype := .int) (t := 146) (ki := 1) (a0 := (4, .inl (fun _ => 0))) hx hb hts mw_1_61 rfl (fun C h => by cases h) hK rfl hKS hS hA rfl (fun _ => rfl) (fun j => i0_146 j) (fun _ => rfl) (by decide) rfl (by decide) (Nat.le_of_ble_eq_true rfl) (Nat.le_of_ble_eq_true rfl) dX8_init_27 (fun q_4 L1 T1 r1 σ1 ρ1 H hKS mq_4 tq_4 hS => ?_)
  refine W.widen (k := 4) (n := 16) (Nat.le_of_ble_eq_true rfl) (Nat.le_of_ble_eq_true rfl) ?_
  refine k_pr hx hb hts hown hin hK hKS hS mq_4 tq_4 fq_106_3 rfl rfl rfl rfl (fun i h1 h2 => absurd h2 (by omega)) (fun _ h => by cases h) mw_1_92 dX8_init_29 (fun r1 H locs hKS _ _ hS => ?_)
  refine lv_aload_n hx hb dX8_init_32 rfl (lv_at hl 0 rfl) ?_
  refine lv_bipush (v := 20) hx hb dX8_init_33 (by decide) ?_
  refine k_na (atype := .int) (t := 147) (ki := 1) (a0 := (20, .inl (fun _ => 0))) hx hb hts mw_1_61 rfl (fun C h => by cases h) hK rfl hKS hS hA rfl (fun _ => rfl) (fun j => i0_147 j) (fun _ => rfl) (by decide) rfl (by decide) (Nat.le_of_ble_eq_true rfl) (Nat.le_of_ble_eq_true rfl) dX8_init_35 (fun q_5 L1 T1 r1 σ1 ρ1 H hKS mq_5 tq_5 hS => ?_)
  refine W.widen (k := 5) (n := 36) (Nat.le_of_ble_eq_true rfl) (Nat.le_of_ble_eq_true rfl) ?_
  refine k_pr hx hb hts hown hin hK hKS hS mq_5 tq_5 fq_106_4 rfl rfl rfl rfl (fun i h1 h2 => absurd h2 (by omega)) (fun _ h => by cases h) mw_1_95 dX8_init_37 (fun r1 H locs hKS _ _ hS => ?_)
  refine lv_aload_n hx hb dX8_init_40 rfl (lv_at hl 0 rfl) ?_
  refine lv_bipush (v := 40) hx hb dX8_init_41 (by decide) ?_
  refine k_na (atype := .int) (t := 148) (ki := 1) (a0 := (40, .inl (fun _ => 0))) hx hb hts mw_1_61 rfl (fun C h => by cases h) hK rfl hKS hS hA rfl (fun _ => rfl) (fun j => i0_148 j) (fun _ => rfl) (by decide) rfl (by decide) (Nat.le_of_ble_eq_true rfl) (Nat.le_of_ble_eq_true rfl) dX8_init_43 (fun q_6 L1 T1 r1 σ1 ρ1 H hKS mq_6 tq_6 hS => ?_)
  refine W.widen (k := 6) (n := 76) (Nat.le_of_ble_eq_true rfl) (Nat.le_of_ble_eq_true rfl) ?_
  refine k_pr hx hb hts hown hin hK hKS hS mq_6 tq_6 fq_106_5 rfl rfl rfl rfl (fun i h1 h2 => absurd h2 (by omega)) (fun _ h => by cases h) mw_1_100 dX8_init_45 (fun r1 H locs hKS _ _ hS => ?_)
  exact W.vret hx hb hr (fun t ht hW => ⟨⟨(), rfl, trivial, hKS.end hn_106 hf_106 ht⟩, hS.F ht⟩) hS.2.2 dX8_init_48
theorem mw_1_73 : (.methodLink RX3 3 objectInit : Cond) ∈ wsA := wsA_t (List.mem_append_left _ (List.mem_of_getElem? (l := tables_1_1) (i := 73) rfl)) rfl
theorem mw_1_74 : (.classLink RX3 27 RX8 : Cond) ∈ wsA := wsA_t (List.mem_append_left _ (List.mem_of_getElem? (l := tables_1_1) (i := 74) rfl)) rfl
theorem mw_1_75 : (.instantiable RX8 8 : Cond) ∈ wsA := wsA_t (List.mem_append_left _ (List.mem_of_getElem? (l := tables_1_1) (i := 75) rfl)) rfl
theorem mw_1_77 : (.instanceMethod yX8_init : Cond) ∈ wsA := wsA_t (List.mem_append_left _ (List.mem_of_getElem? (l := tables_1_1) (i := 77) rfl)) rfl
theorem mw_1_78 : (.code yX8_init cX8_init 1 none : Cond) ∈ wsA := wsA_t (List.mem_append_left _ (List.mem_of_getElem? (l := tables_1_1) (i := 78) rfl)) rfl
theorem dX3_init_0 : decode cX3_init 0 = .ok (.aload_n 0, 1) := by decide +kernel
theorem dX3_init_1 : decode cX3_init 1 = .ok (.invokespecial 3, 3) := by decide +kernel
theorem dX3_init_4 : decode cX3_init 4 = .ok (.aload_n 0, 1) := by decide +kernel
theorem dX3_init_5 : decode cX3_init 5 = .ok (.iconst 5, 1) := by decide +kernel
theorem dX3_init_6 : decode cX3_init 6 = .ok (.newarray .int, 2) := by decide +kernel
theorem dX3_init_8 : decode cX3_init 8 = .ok (.putfield 9, 3) := by decide +kernel
theorem dX3_init_11 : decode cX3_init 11 = .ok (.aload_n 0, 1) := by decide +kernel
theorem dX3_init_12 : decode cX3_init 12 = .ok (.iconst 5, 1) := by decide +kernel
theorem dX3_init_13 : decode cX3_init 13 = .ok (.newarray .int, 2) := by decide +kernel
theorem dX3_init_15 : decode cX3_init 15 = .ok (.putfield 15, 3) := by decide +kernel
theorem dX3_init_18 : decode cX3_init 18 = .ok (.aload_n 0, 1) := by decide +kernel
theorem dX3_init_19 : decode cX3_init 19 = .ok (.iconst 5, 1) := by decide +kernel
theorem dX3_init_20 : decode cX3_init 20 = .ok (.newarray .int, 2) := by decide +kernel
theorem dX3_init_22 : decode cX3_init 22 = .ok (.putfield 18, 3) := by decide +kernel
theorem dX3_init_25 : decode cX3_init 25 = .ok (.aload_n 0, 1) := by decide +kernel
theorem dX3_init_26 : decode cX3_init 26 = .ok (.bipush 8, 2) := by decide +kernel
theorem dX3_init_28 : decode cX3_init 28 = .ok (.newarray .int, 2) := by decide +kernel
theorem dX3_init_30 : decode cX3_init 30 = .ok (.putfield 21, 3) := by decide +kernel
theorem dX3_init_33 : decode cX3_init 33 = .ok (.aload_n 0, 1) := by decide +kernel
theorem dX3_init_34 : decode cX3_init 34 = .ok (.bipush 8, 2) := by decide +kernel
theorem dX3_init_36 : decode cX3_init 36 = .ok (.newarray .int, 2) := by decide +kernel
theorem dX3_init_38 : decode cX3_init 38 = .ok (.putfield 24, 3) := by decide +kernel
theorem dX3_init_41 : decode cX3_init 41 = .ok (.aload_n 0, 1) := by decide +kernel
theorem dX3_init_42 : decode cX3_init 42 = .ok (.new 27, 3) := by decide +kernel
theorem dX3_init_45 : decode cX3_init 45 = .ok (.dup, 1) := by decide +kernel
theorem dX3_init_46 : decode cX3_init 46 = .ok (.invokespecial 29, 3) := by decide +kernel
theorem dX3_init_49 : decode cX3_init 49 = .ok (.putfield 30, 3) := by decide +kernel
theorem dX3_init_52 : decode cX3_init 52 = .ok (.return_, 1) := by decide +kernel
theorem mi_X8_init : MI yX8_init cX8_init 1 0 := ⟨mw_1_77, mw_1_5, mw_1_78, rfl, by decide, by decide, by decide +kernel⟩
theorem hn_3 : ∀ k t : Nat, fT 3 k = some t → k < 6 := fun k t h => match k, h with | 0, h => by decide | 1, h => by decide | 2, h => by decide | 3, h => by decide | 4, h => by decide | 5, h => by decide | 6, h => nomatch h | 7, h => nomatch h | 8, h => nomatch h | 9, h => nomatch h | 10, h => nomatch h | k + 11, h => nomatch h
theorem hf_3 : ∀ j : Nat, (fun _ => (0 : Int32)) j = ini 3 j := fun j => by unfold ini; rw [if_neg (fun h => absurd h.1 (by decide)), if_neg (fun h => absurd h.1 (by decide))]
set_option maxHeartbeats 4000000 in
set_option maxRecDepth 100000 in
theorem kk_X3_init_3 (l : Launch) (D : va_G) (cA : Nat → ClassId) (L : List Nat) (T : Nat → Nat) (r : Rg) (σ : Sg) (ρ : Lg) (hL : L.Nodup) (sz : Nat) (h0 : Nat) (mh0 : h0 ∈ L) (th0 : T h0 = 3) (z0 : ∀ j, σ h0 j = 0) : Met l yX3_init (.code yX3_init cX3_init 1 none :: wsA) ({ frames := 2, cells := 12, slots := 115, locals := 60 }) (PR D cA L T r σ ρ sz [.ref h0]) (va_Qv (fun _ : Unit => True) (fun _ t => KQ D cA L T r σ h0 sz t) (dm L sz)) 12 115 (dm L sz) := by
  refine Met.ofW (cc := cX3_init) (maxL := 1) (ret := none) (by decide) rfl ?_
  intro p e s m args below meth c s₁ B hml hv
  obtain ⟨rfl, hsz, hP, hK, hN⟩ := hv
  have hx := B.exec
  have hb := B.bytes
  have hr := B.returns
  have hts : ∀ w ∈ wsA, w.before _ s = true := fun w h => atoms_spec (ws := .code yX3_init cX3_init 1 none :: wsA) B.pre w (List.mem_cons_of_mem _ h)
  have hown : s.vm.findClass RX3 = some m.cls := findClass_of_methodNamed B.named
  have hin : meth.name = "<init>" := (name_of_methodNamed B.named B.method).1
  subst hsz
  have hKS := KS.begin (sz := s.heap.size) hP ⟨hL, fun a h => Or.inl h⟩ mh0 th0 z0
  have hA : ∀ q : Nat, s.heap.size ≤ q → dm L s.heap.size q := fun q h => Or.inr h
  have hS : va_S (dm L s.heap.size) s.heap s.heap [] := va_S.rf
  have hl := lv_entry ([.ref h0]) (n := 1) (Nat.le_of_ble_eq_true rfl)
  rw [lg_entry_eq]
  generalize (lg_sl ([.ref h0]) ++ List.replicate (1 - (lg_sl ([.ref h0])).length) Slot.unset).toArray = ls at hl ⊢
  have hl : lv_has ls 1 [(0, .ref h0)] := hl
  refine lv_aload_n hx hb dX3_init_0 rfl (lv_at hl 0 rfl) ?_
  refine W.objInit hx hb hown (hts _ mw_1_73) (hts _ mw_1_28) (hts _ mw_1_29) rfl (by rw [hml]; exact hl.1) rfl dX3_init_1 (Nat.le_of_ble_eq_true rfl) (Nat.le_of_ble_eq_true rfl) ?_
  refine W.eq (g2 := F0 m 4 ls []) rfl ?_
  refine lv_aload_n hx hb dX3_init_4 rfl (lv_at hl 0 rfl) ?_
  refine lv_iconst (v := 5) hx hb dX3_init_5 (by decide) ?_
  refine k_na (atype := .int) (t := 33) (ki := 1) (a0 := (5, .inl (fun _ => 0))) hx hb hts mw_1_61 rfl (fun C h => by cases h) hK rfl hKS hS hA rfl (fun _ => rfl) (fun j => i0_33 j) (fun _ => rfl) (by decide) rfl (by decide) (Nat.le_of_ble_eq_true rfl) (Nat.le_of_ble_eq_true rfl) dX3_init_6 (fun q_1 L1 T1 r1 σ1 ρ1 H hKS mq_1 tq_1 hS => ?_)
  refine W.widen (k := 1) (n := 5) (Nat.le_of_ble_eq_true rfl) (Nat.le_of_ble_eq_true rfl) ?_
  refine k_pr hx hb hts hown hin hK hKS hS mq_1 tq_1 fq_3_0 rfl rfl rfl rfl (fun i h1 h2 => absurd h2 (by omega)) (fun _ h => by cases h) mw_1_130 dX3_init_8 (fun r1 H locs hKS _ _ hS => ?_)
  refine lv_aload_n hx hb dX3_init_11 rfl (lv_at hl 0 rfl) ?_
  refine lv_iconst (v := 5) hx hb dX3_init_12 (by decide) ?_
  refine k_na (atype := .int) (t := 34) (ki := 1) (a0 := (5, .inl (fun _ => 0))) hx hb hts mw_1_61 rfl (fun C h => by cases h) hK rfl hKS hS hA rfl (fun _ => rfl) (fun j => i0_34 j) (fun _ => rfl) (by decide) rfl (by decide) (Nat.le_of_ble_eq_true rfl) (Nat.le_of_ble_eq_true rfl) dX3_init_13 (fun q_2 L1 T1 r1 σ1 ρ1 H hKS mq_2 tq_2 hS => ?_)
  refine W.widen (k := 2) (n := 10) (Nat.le_of_ble_eq_true rfl) (Nat.le_of_ble_eq_true rfl) ?_
  refine k_pr hx hb hts hown hin hK hKS hS mq_2 tq_2 fq_3_1 rfl rfl rfl rfl (fun i h1 h2 => absurd h2 (by omega)) (fun _ h => by cases h) mw_1_136 dX3_init_15 (fun r1 H locs hKS _ _ hS => ?_)
  refine lv_aload_n hx hb dX3_init_18 rfl (lv_at hl 0 rfl) ?_
  refine lv_iconst (v := 5) hx hb dX3_init_19 (by decide) ?_
  refine k_na (atype := .int) (t := 35) (ki := 1) (a0 := (5, .inl (fun _ => 0))) hx hb hts mw_1_61 rfl (fun C h => by cases h) hK rfl hKS hS hA rfl (fun _ => rfl) (fun j => i0_35 j) (fun _ => rfl) (by decide) rfl (by decide) (Nat.le_of_ble_eq_true rfl) (Nat.le_of_ble_eq_true rfl) dX3_init_20 (fun q_3 L1 T1 r1 σ1 ρ1 H hKS mq_3 tq_3 hS => ?_)
  refine W.widen (k := 3) (n := 15) (Nat.le_of_ble_eq_true rfl) (Nat.le_of_ble_eq_true rfl) ?_
  refine k_pr hx hb hts hown hin hK hKS hS mq_3 tq_3 fq_3_2 rfl rfl rfl rfl (fun i h1 h2 => absurd h2 (by omega)) (fun _ h => by cases h) mw_1_141 dX3_init_22 (fun r1 H locs hKS _ _ hS => ?_)
  refine lv_aload_n hx hb dX3_init_25 rfl (lv_at hl 0 rfl) ?_
  refine lv_bipush (v := 8) hx hb dX3_init_26 (by decide) ?_
  refine k_na (atype := .int) (t := 36) (ki := 1) (a0 := (8, .inl (fun _ => 0))) hx hb hts mw_1_61 rfl (fun C h => by cases h) hK rfl hKS hS hA rfl (fun _ => rfl) (fun j => i0_36 j) (fun _ => rfl) (by decide) rfl (by decide) (Nat.le_of_ble_eq_true rfl) (Nat.le_of_ble_eq_true rfl) dX3_init_28 (fun q_4 L1 T1 r1 σ1 ρ1 H hKS mq_4 tq_4 hS => ?_)
  refine W.widen (k := 4) (n := 23) (Nat.le_of_ble_eq_true rfl) (Nat.le_of_ble_eq_true rfl) ?_
  refine k_pr hx hb hts hown hin hK hKS hS mq_4 tq_4 fq_3_3 rfl rfl rfl rfl (fun i h1 h2 => absurd h2 (by omega)) (fun _ h => by cases h) mw_1_146 dX3_init_30 (fun r1 H locs hKS _ _ hS => ?_)
  refine lv_aload_n hx hb dX3_init_33 rfl (lv_at hl 0 rfl) ?_
  refine lv_bipush (v := 8) hx hb dX3_init_34 (by decide) ?_
  refine k_na (atype := .int) (t := 37) (ki := 1) (a0 := (8, .inl (fun _ => 0))) hx hb hts mw_1_61 rfl (fun C h => by cases h) hK rfl hKS hS hA rfl (fun _ => rfl) (fun j => i0_37 j) (fun _ => rfl) (by decide) rfl (by decide) (Nat.le_of_ble_eq_true rfl) (Nat.le_of_ble_eq_true rfl) dX3_init_36 (fun q_5 L1 T1 r1 σ1 ρ1 H hKS mq_5 tq_5 hS => ?_)
  refine W.widen (k := 5) (n := 31) (Nat.le_of_ble_eq_true rfl) (Nat.le_of_ble_eq_true rfl) ?_
  refine k_pr hx hb hts hown hin hK hKS hS mq_5 tq_5 fq_3_4 rfl rfl rfl rfl (fun i h1 h2 => absurd h2 (by omega)) (fun _ h => by cases h) mw_1_152 dX3_init_38 (fun r1 H locs hKS _ _ hS => ?_)
  refine lv_aload_n hx hb dX3_init_41 rfl (lv_at hl 0 rfl) ?_
  refine k_no (t := 100) (ci := 8) (TT := TX8) hx hb hts lay8 tyX8_ok hown mw_1_74 mw_1_75 mw_1_5 hK hKS hS hA rfl rfl (fun j hj => by rcases (show j = 0 ∨ j = 1 ∨ j = 2 ∨ j = 3 ∨ j = 4 ∨ j = 5 ∨ j = 6 ∨ j = 7 by omega) with rfl | rfl | rfl | rfl | rfl | rfl | rfl | rfl <;> rfl) (Nat.le_of_ble_eq_true rfl) (Nat.le_of_ble_eq_true rfl) dX3_init_42 (fun q_6 L1 T1 r1 σ1 ρ1 H hKS mq_6 tq_6 zq_6 nq_6 pq_6 hS => ?_)
  refine W.widen (k := 6) (n := 39) (Nat.le_of_ble_eq_true rfl) (Nat.le_of_ble_eq_true rfl) ?_
  refine lv_dup hx hb dX3_init_45 rfl ?_
  refine k_ci (va_runIN (As := []) (rest := [.ref q_6, .ref h0]) ⟨hx, hb, hml, hown, hts⟩ (kk_X8_init_100 l D cA _ _ _ _ _ hKS.2.1.1 _ q_6 mq_6 tq_6 zq_6) (cIN hts mi_X8_init hN (show (RX3, 29, yX8_init, RX11) ∈ nwL by decide +kernel) rfl rfl ⟨Nat.le_of_ble_eq_true rfl, Nat.le_of_ble_eq_true rfl⟩) (pS hKS.1 hK hN) rfl rfl hl.1 rfl (lv_room (Nat.le_of_ble_eq_true rfl)) dX3_init_46 ⟨Nat.le_of_ble_eq_true rfl, Nat.le_of_ble_eq_true rfl⟩) hKS mq_6 nq_6 pq_6 hA hS tq_6 (fun L1 T1 r1 σ1 ρ1 H locs hKS mq_6 tq_6 hS => ?_)
  refine W.widen (k := 12) (n := 115) (Nat.le_of_ble_eq_true rfl) (Nat.le_of_ble_eq_true rfl) ?_
  refine k_pr hx hb hts hown hin hK hKS hS mq_6 tq_6 fq_3_5 rfl rfl rfl rfl (fun i h1 h2 => absurd h2 (by omega)) (fun _ h => by cases h) mw_1_158 dX3_init_49 (fun r1 H locs hKS _ _ hS => ?_)
  exact W.vret hx hb hr (fun t ht hW => ⟨⟨(), rfl, trivial, hKS.end hn_3 hf_3 ht⟩, hS.F ht⟩) hS.2.2 dX3_init_52
theorem hn_17 : ∀ k t : Nat, fT 17 k = some t → k < 6 := fun k t h => match k, h with | 0, h => by decide | 1, h => by decide | 2, h => by decide | 3, h => by decide | 4, h => by decide | 5, h => by decide | 6, h => nomatch h | 7, h => nomatch h | 8, h => nomatch h | 9, h => nomatch h | 10, h => nomatch h | k + 11, h => nomatch h
theorem hf_17 : ∀ j : Nat, (fun _ => (0 : Int32)) j = ini 17 j := fun j => by unfold ini; rw [if_neg (fun h => absurd h.1 (by decide)), if_neg (fun h => absurd h.1 (by decide))]
set_option maxHeartbeats 4000000 in
set_option maxRecDepth 100000 in
theorem kk_X3_init_17 (l : Launch) (D : va_G) (cA : Nat → ClassId) (L : List Nat) (T : Nat → Nat) (r : Rg) (σ : Sg) (ρ : Lg) (hL : L.Nodup) (sz : Nat) (h0 : Nat) (mh0 : h0 ∈ L) (th0 : T h0 = 17) (z0 : ∀ j, σ h0 j = 0) : Met l yX3_init (.code yX3_init cX3_init 1 none :: wsA) ({ frames := 2, cells := 12, slots := 115, locals := 60 }) (PR D cA L T r σ ρ sz [.ref h0]) (va_Qv (fun _ : Unit => True) (fun _ t => KQ D cA L T r σ h0 sz t) (dm L sz)) 12 115 (dm L sz) := by
  refine Met.ofW (cc := cX3_init) (maxL := 1) (ret := none) (by decide) rfl ?_
  intro p e s m args below meth c s₁ B hml hv
  obtain ⟨rfl, hsz, hP, hK, hN⟩ := hv
  have hx := B.exec
  have hb := B.bytes
  have hr := B.returns
  have hts : ∀ w ∈ wsA, w.before _ s = true := fun w h => atoms_spec (ws := .code yX3_init cX3_init 1 none :: wsA) B.pre w (List.mem_cons_of_mem _ h)
  have hown : s.vm.findClass RX3 = some m.cls := findClass_of_methodNamed B.named
  have hin : meth.name = "<init>" := (name_of_methodNamed B.named B.method).1
  subst hsz
  have hKS := KS.begin (sz := s.heap.size) hP ⟨hL, fun a h => Or.inl h⟩ mh0 th0 z0
  have hA : ∀ q : Nat, s.heap.size ≤ q → dm L s.heap.size q := fun q h => Or.inr h
  have hS : va_S (dm L s.heap.size) s.heap s.heap [] := va_S.rf
  have hl := lv_entry ([.ref h0]) (n := 1) (Nat.le_of_ble_eq_true rfl)
  rw [lg_entry_eq]
  generalize (lg_sl ([.ref h0]) ++ List.replicate (1 - (lg_sl ([.ref h0])).length) Slot.unset).toArray = ls at hl ⊢
  have hl : lv_has ls 1 [(0, .ref h0)] := hl
  refine lv_aload_n hx hb dX3_init_0 rfl (lv_at hl 0 rfl) ?_
  refine W.objInit hx hb hown (hts _ mw_1_73) (hts _ mw_1_28) (hts _ mw_1_29) rfl (by rw [hml]; exact hl.1) rfl dX3_init_1 (Nat.le_of_ble_eq_true rfl) (Nat.le_of_ble_eq_true rfl) ?_
  refine W.eq (g2 := F0 m 4 ls []) rfl ?_
  refine lv_aload_n hx hb dX3_init_4 rfl (lv_at hl 0 rfl) ?_
  refine lv_iconst (v := 5) hx hb dX3_init_5 (by decide) ?_
  refine k_na (atype := .int) (t := 90) (ki := 1) (a0 := (5, .inl (fun _ => 0))) hx hb hts mw_1_61 rfl (fun C h => by cases h) hK rfl hKS hS hA rfl (fun _ => rfl) (fun j => i0_90 j) (fun _ => rfl) (by decide) rfl (by decide) (Nat.le_of_ble_eq_true rfl) (Nat.le_of_ble_eq_true rfl) dX3_init_6 (fun q_1 L1 T1 r1 σ1 ρ1 H hKS mq_1 tq_1 hS => ?_)
  refine W.widen (k := 1) (n := 5) (Nat.le_of_ble_eq_true rfl) (Nat.le_of_ble_eq_true rfl) ?_
  refine k_pr hx hb hts hown hin hK hKS hS mq_1 tq_1 fq_17_0 rfl rfl rfl rfl (fun i h1 h2 => absurd h2 (by omega)) (fun _ h => by cases h) mw_1_130 dX3_init_8 (fun r1 H locs hKS _ _ hS => ?_)
  refine lv_aload_n hx hb dX3_init_11 rfl (lv_at hl 0 rfl) ?_
  refine lv_iconst (v := 5) hx hb dX3_init_12 (by decide) ?_
  refine k_na (atype := .int) (t := 91) (ki := 1) (a0 := (5, .inl (fun _ => 0))) hx hb hts mw_1_61 rfl (fun C h => by cases h) hK rfl hKS hS hA rfl (fun _ => rfl) (fun j => i0_91 j) (fun _ => rfl) (by decide) rfl (by decide) (Nat.le_of_ble_eq_true rfl) (Nat.le_of_ble_eq_true rfl) dX3_init_13 (fun q_2 L1 T1 r1 σ1 ρ1 H hKS mq_2 tq_2 hS => ?_)
  refine W.widen (k := 2) (n := 10) (Nat.le_of_ble_eq_true rfl) (Nat.le_of_ble_eq_true rfl) ?_
  refine k_pr hx hb hts hown hin hK hKS hS mq_2 tq_2 fq_17_1 rfl rfl rfl rfl (fun i h1 h2 => absurd h2 (by omega)) (fun _ h => by cases h) mw_1_136 dX3_init_15 (fun r1 H locs hKS _ _ hS => ?_)
  refine lv_aload_n hx hb dX3_init_18 rfl (lv_at hl 0 rfl) ?_
  refine lv_iconst (v := 5) hx hb dX3_init_19 (by decide) ?_
  refine k_na (atype := .int) (t := 92) (ki := 1) (a0 := (5, .inl (fun _ => 0))) hx hb hts mw_1_61 rfl (fun C h => by cases h) hK rfl hKS hS hA rfl (fun _ => rfl) (fun j => i0_92 j) (fun _ => rfl) (by decide) rfl (by decide) (Nat.le_of_ble_eq_true rfl) (Nat.le_of_ble_eq_true rfl) dX3_init_20 (fun q_3 L1 T1 r1 σ1 ρ1 H hKS mq_3 tq_3 hS => ?_)
  refine W.widen (k := 3) (n := 15) (Nat.le_of_ble_eq_true rfl) (Nat.le_of_ble_eq_true rfl) ?_
  refine k_pr hx hb hts hown hin hK hKS hS mq_3 tq_3 fq_17_2 rfl rfl rfl rfl (fun i h1 h2 => absurd h2 (by omega)) (fun _ h => by cases h) mw_1_141 dX3_init_22 (fun r1 H locs hKS _ _ hS => ?_)
  refine lv_aload_n hx hb dX3_init_25 rfl (lv_at hl 0 rfl) ?_
  refine lv_bipush (v := 8) hx hb dX3_init_26 (by decide) ?_
  refine k_na (atype := .int) (t := 93) (ki := 1) (a0 := (8, .inl (fun _ => 0))) hx hb hts mw_1_61 rfl (fun C h => by cases h) hK rfl hKS hS hA rfl (fun _ => rfl) (fun j => i0_93 j) (fun _ => rfl) (by decide) rfl (by decide) (Nat.le_of_ble_eq_true rfl) (Nat.le_of_ble_eq_true rfl) dX3_init_28 (fun q_4 L1 T1 r1 σ1 ρ1 H hKS mq_4 tq_4 hS => ?_)
  refine W.widen (k := 4) (n := 23) (Nat.le_of_ble_eq_true rfl) (Nat.le_of_ble_eq_true rfl) ?_
  refine k_pr hx hb hts hown hin hK hKS hS mq_4 tq_4 fq_17_3 rfl rfl rfl rfl (fun i h1 h2 => absurd h2 (by omega)) (fun _ h => by cases h) mw_1_146 dX3_init_30 (fun r1 H locs hKS _ _ hS => ?_)
  refine lv_aload_n hx hb dX3_init_33 rfl (lv_at hl 0 rfl) ?_
  refine lv_bipush (v := 8) hx hb dX3_init_34 (by decide) ?_
  refine k_na (atype := .int) (t := 94) (ki := 1) (a0 := (8, .inl (fun _ => 0))) hx hb hts mw_1_61 rfl (fun C h => by cases h) hK rfl hKS hS hA rfl (fun _ => rfl) (fun j => i0_94 j) (fun _ => rfl) (by decide) rfl (by decide) (Nat.le_of_ble_eq_true rfl) (Nat.le_of_ble_eq_true rfl) dX3_init_36 (fun q_5 L1 T1 r1 σ1 ρ1 H hKS mq_5 tq_5 hS => ?_)
  refine W.widen (k := 5) (n := 31) (Nat.le_of_ble_eq_true rfl) (Nat.le_of_ble_eq_true rfl) ?_
  refine k_pr hx hb hts hown hin hK hKS hS mq_5 tq_5 fq_17_4 rfl rfl rfl rfl (fun i h1 h2 => absurd h2 (by omega)) (fun _ h => by cases h) mw_1_152 dX3_init_38 (fun r1 H locs hKS _ _ hS => ?_)
  refine lv_aload_n hx hb dX3_init_41 rfl (lv_at hl 0 rfl) ?_
  refine k_no (t := 101) (ci := 8) (TT := TX8) hx hb hts lay8 tyX8_ok hown mw_1_74 mw_1_75 mw_1_5 hK hKS hS hA rfl rfl (fun j hj => by rcases (show j = 0 ∨ j = 1 ∨ j = 2 ∨ j = 3 ∨ j = 4 ∨ j = 5 ∨ j = 6 ∨ j = 7 by omega) with rfl | rfl | rfl | rfl | rfl | rfl | rfl | rfl <;> rfl) (Nat.le_of_ble_eq_true rfl) (Nat.le_of_ble_eq_true rfl) dX3_init_42 (fun q_6 L1 T1 r1 σ1 ρ1 H hKS mq_6 tq_6 zq_6 nq_6 pq_6 hS => ?_)
  refine W.widen (k := 6) (n := 39) (Nat.le_of_ble_eq_true rfl) (Nat.le_of_ble_eq_true rfl) ?_
  refine lv_dup hx hb dX3_init_45 rfl ?_
  refine k_ci (va_runIN (As := []) (rest := [.ref q_6, .ref h0]) ⟨hx, hb, hml, hown, hts⟩ (kk_X8_init_101 l D cA _ _ _ _ _ hKS.2.1.1 _ q_6 mq_6 tq_6 zq_6) (cIN hts mi_X8_init hN (show (RX3, 29, yX8_init, RX11) ∈ nwL by decide +kernel) rfl rfl ⟨Nat.le_of_ble_eq_true rfl, Nat.le_of_ble_eq_true rfl⟩) (pS hKS.1 hK hN) rfl rfl hl.1 rfl (lv_room (Nat.le_of_ble_eq_true rfl)) dX3_init_46 ⟨Nat.le_of_ble_eq_true rfl, Nat.le_of_ble_eq_true rfl⟩) hKS mq_6 nq_6 pq_6 hA hS tq_6 (fun L1 T1 r1 σ1 ρ1 H locs hKS mq_6 tq_6 hS => ?_)
  refine W.widen (k := 12) (n := 115) (Nat.le_of_ble_eq_true rfl) (Nat.le_of_ble_eq_true rfl) ?_
  refine k_pr hx hb hts hown hin hK hKS hS mq_6 tq_6 fq_17_5 rfl rfl rfl rfl (fun i h1 h2 => absurd h2 (by omega)) (fun _ h => by cases h) mw_1_158 dX3_init_49 (fun r1 H locs hKS _ _ hS => ?_)
  exact W.vret hx hb hr (fun t ht hW => ⟨⟨(), rfl, trivial, hKS.end hn_17 hf_17 ht⟩, hS.F ht⟩) hS.2.2 dX3_init_52
theorem hn_18 : ∀ k t : Nat, fT 18 k = some t → k < 6 := fun k t h => match k, h with | 0, h => by decide | 1, h => by decide | 2, h => by decide | 3, h => by decide | 4, h => by decide | 5, h => by decide | 6, h => nomatch h | 7, h => nomatch h | 8, h => nomatch h | 9, h => nomatch h | 10, h => nomatch h | k + 11, h => nomatch h
theorem hf_18 : ∀ j : Nat, (fun _ => (0 : Int32)) j = ini 18 j := fun j => by unfold ini; rw [if_neg (fun h => absurd h.1 (by decide)), if_neg (fun h => absurd h.1 (by decide))]
set_option maxHeartbeats 4000000 in
set_option maxRecDepth 100000 in
theorem kk_X3_init_18 (l : Launch) (D : va_G) (cA : Nat → ClassId) (L : List Nat) (T : Nat → Nat) (r : Rg) (σ : Sg) (ρ : Lg) (hL : L.Nodup) (sz : Nat) (h0 : Nat) (mh0 : h0 ∈ L) (th0 : T h0 = 18) (z0 : ∀ j, σ h0 j = 0) : Met l yX3_init (.code yX3_init cX3_init 1 none :: wsA) ({ frames := 2, cells := 12, slots := 115, locals := 60 }) (PR D cA L T r σ ρ sz [.ref h0]) (va_Qv (fun _ : Unit => True) (fun _ t => KQ D cA L T r σ h0 sz t) (dm L sz)) 12 115 (dm L sz) := by
  refine Met.ofW (cc := cX3_init) (maxL := 1) (ret := none) (by decide) rfl ?_
  intro p e s m args below meth c s₁ B hml hv
  obtain ⟨rfl, hsz, hP, hK, hN⟩ := hv
  have hx := B.exec
  have hb := B.bytes
  have hr := B.returns
  have hts : ∀ w ∈ wsA, w.before _ s = true := fun w h => atoms_spec (ws := .code yX3_init cX3_init 1 none :: wsA) B.pre w (List.mem_cons_of_mem _ h)
  have hown : s.vm.findClass RX3 = some m.cls := findClass_of_methodNamed B.named
  have hin : meth.name = "<init>" := (name_of_methodNamed B.named B.method).1
  subst hsz
  have hKS := KS.begin (sz := s.heap.size) hP ⟨hL, fun a h => Or.inl h⟩ mh0 th0 z0
  have hA : ∀ q : Nat, s.heap.size ≤ q → dm L s.heap.size q := fun q h => Or.inr h
  have hS : va_S (dm L s.heap.size) s.heap s.heap [] := va_S.rf
  have hl := lv_entry ([.ref h0]) (n := 1) (Nat.le_of_ble_eq_true rfl)
  rw [lg_entry_eq]
  generalize (lg_sl ([.ref h0]) ++ List.replicate (1 - (lg_sl ([.ref h0])).length) Slot.unset).toArray = ls at hl ⊢
  have hl : lv_has ls 1 [(0, .ref h0)] := hl
  refine lv_aload_n hx hb dX3_init_0 rfl (lv_at hl 0 rfl) ?_
  refine W.objInit hx hb hown (hts _ mw_1_73) (hts _ mw_1_28) (hts _ mw_1_29) rfl (by rw [hml]; exact hl.1) rfl dX3_init_1 (Nat.le_of_ble_eq_true rfl) (Nat.le_of_ble_eq_true rfl) ?_
  refine W.eq (g2 := F0 m 4 ls []) rfl ?_
  refine lv_aload_n hx hb dX3_init_4 rfl (lv_at hl 0 rfl) ?_
  refine lv_iconst (v := 5) hx hb dX3_init_5 (by decide) ?_
  refine k_na (atype := .int) (t := 95) (ki := 1) (a0 := (5, .inl (fun _ => 0))) hx hb hts mw_1_61 rfl (fun C h => by cases h) hK rfl hKS hS hA rfl (fun _ => rfl) (fun j => i0_95 j) (fun _ => rfl) (by decide) rfl (by decide) (Nat.le_of_ble_eq_true rfl) (Nat.le_of_ble_eq_true rfl) dX3_init_6 (fun q_1 L1 T1 r1 σ1 ρ1 H hKS mq_1 tq_1 hS => ?_)
  refine W.widen (k := 1) (n := 5) (Nat.le_of_ble_eq_true rfl) (Nat.le_of_ble_eq_true rfl) ?_
  refine k_pr hx hb hts hown hin hK hKS hS mq_1 tq_1 fq_18_0 rfl rfl rfl rfl (fun i h1 h2 => absurd h2 (by omega)) (fun _ h => by cases h) mw_1_130 dX3_init_8 (fun r1 H locs hKS _ _ hS => ?_)
  refine lv_aload_n hx hb dX3_init_11 rfl (lv_at hl 0 rfl) ?_
  refine lv_iconst (v := 5) hx hb dX3_init_12 (by decide) ?_
  refine k_na (atype := .int) (t := 96) (ki := 1) (a0 := (5, .inl (fun _ => 0))) hx hb hts mw_1_61 rfl (fun C h => by cases h) hK rfl hKS hS hA rfl (fun _ => rfl) (fun j => i0_96 j) (fun _ => rfl) (by decide) rfl (by decide) (Nat.le_of_ble_eq_true rfl) (Nat.le_of_ble_eq_true rfl) dX3_init_13 (fun q_2 L1 T1 r1 σ1 ρ1 H hKS mq_2 tq_2 hS => ?_)
  refine W.widen (k := 2) (n := 10) (Nat.le_of_ble_eq_true rfl) (Nat.le_of_ble_eq_true rfl) ?_
  refine k_pr hx hb hts hown hin hK hKS hS mq_2 tq_2 fq_18_1 rfl rfl rfl rfl (fun i h1 h2 => absurd h2 (by omega)) (fun _ h => by cases h) mw_1_136 dX3_init_15 (fun r1 H locs hKS _ _ hS => ?_)
  refine lv_aload_n hx hb dX3_init_18 rfl (lv_at hl 0 rfl) ?_
  refine lv_iconst (v := 5) hx hb dX3_init_19 (by decide) ?_
  refine k_na (atype := .int) (t := 97) (ki := 1) (a0 := (5, .inl (fun _ => 0))) hx hb hts mw_1_61 rfl (fun C h => by cases h) hK rfl hKS hS hA rfl (fun _ => rfl) (fun j => i0_97 j) (fun _ => rfl) (by decide) rfl (by decide) (Nat.le_of_ble_eq_true rfl) (Nat.le_of_ble_eq_true rfl) dX3_init_20 (fun q_3 L1 T1 r1 σ1 ρ1 H hKS mq_3 tq_3 hS => ?_)
  refine W.widen (k := 3) (n := 15) (Nat.le_of_ble_eq_true rfl) (Nat.le_of_ble_eq_true rfl) ?_
  refine k_pr hx hb hts hown hin hK hKS hS mq_3 tq_3 fq_18_2 rfl rfl rfl rfl (fun i h1 h2 => absurd h2 (by omega)) (fun _ h => by cases h) mw_1_141 dX3_init_22 (fun r1 H locs hKS _ _ hS => ?_)
  refine lv_aload_n hx hb dX3_init_25 rfl (lv_at hl 0 rfl) ?_
  refine lv_bipush (v := 8) hx hb dX3_init_26 (by decide) ?_
  refine k_na (atype := .int) (t := 98) (ki := 1) (a0 := (8, .inl (fun _ => 0))) hx hb hts mw_1_61 rfl (fun C h => by cases h) hK rfl hKS hS hA rfl (fun _ => rfl) (fun j => i0_98 j) (fun _ => rfl) (by decide) rfl (by decide) (Nat.le_of_ble_eq_true rfl) (Nat.le_of_ble_eq_true rfl) dX3_init_28 (fun q_4 L1 T1 r1 σ1 ρ1 H hKS mq_4 tq_4 hS => ?_)
  refine W.widen (k := 4) (n := 23) (Nat.le_of_ble_eq_true rfl) (Nat.le_of_ble_eq_true rfl) ?_
  refine k_pr hx hb hts hown hin hK hKS hS mq_4 tq_4 fq_18_3 rfl rfl rfl rfl (fun i h1 h2 => absurd h2 (by omega)) (fun _ h => by cases h) mw_1_146 dX3_init_30 (fun r1 H locs hKS _ _ hS => ?_)
  refine lv_aload_n hx hb dX3_init_33 rfl (lv_at hl 0 rfl) ?_
  refine lv_bipush (v := 8) hx hb dX3_init_34 (by decide) ?_
  refine k_na (atype := .int) (t := 99) (ki := 1) (a0 := (8, .inl (fun _ => 0))) hx hb hts mw_1_61 rfl (fun C h => by cases h) hK rfl hKS hS hA rfl (fun _ => rfl) (fun j => i0_99 j) (fun _ => rfl) (by decide) rfl (by decide) (Nat.le_of_ble_eq_true rfl) (Nat.le_of_ble_eq_true rfl) dX3_init_36 (fun q_5 L1 T1 r1 σ1 ρ1 H hKS mq_5 tq_5 hS => ?_)
  refine W.widen (k := 5) (n := 31) (Nat.le_of_ble_eq_true rfl) (Nat.le_of_ble_eq_true rfl) ?_
  refine k_pr hx hb hts hown hin hK hKS hS mq_5 tq_5 fq_18_4 rfl rfl rfl rfl (fun i h1 h2 => absurd h2 (by omega)) (fun _ h => by cases h) mw_1_152 dX3_init_38 (fun r1 H locs hKS _ _ hS => ?_)
  refine lv_aload_n hx hb dX3_init_41 rfl (lv_at hl 0 rfl) ?_
  refine k_no (t := 106) (ci := 8) (TT := TX8) hx hb hts lay8 tyX8_ok hown mw_1_74 mw_1_75 mw_1_5 hK hKS hS hA rfl rfl (fun j hj => by rcases (show j = 0 ∨ j = 1 ∨ j = 2 ∨ j = 3 ∨ j = 4 ∨ j = 5 ∨ j = 6 ∨ j = 7 by omega) with rfl | rfl | rfl | rfl | rfl | rfl | rfl | rfl <;> rfl) (Nat.le_of_ble_eq_true rfl) (Nat.le_of_ble_eq_true rfl) dX3_init_42 (fun q_6 L1 T1 r1 σ1 ρ1 H hKS mq_6 tq_6 zq_6 nq_6 pq_6 hS => ?_)
  refine W.widen (k := 6) (n := 39) (Nat.le_of_ble_eq_true rfl) (Nat.le_of_ble_eq_true rfl) ?_
  refine lv_dup hx hb dX3_init_45 rfl ?_
  refine k_ci (va_runIN (As := []) (rest := [.ref q_6, .ref h0]) ⟨hx, hb, hml, hown, hts⟩ (kk_X8_init_106 l D cA _ _ _ _ _ hKS.2.1.1 _ q_6 mq_6 tq_6 zq_6) (cIN hts mi_X8_init hN (show (RX3, 29, yX8_init, RX11) ∈ nwL by decide +kernel) rfl rfl ⟨Nat.le_of_ble_eq_true rfl, Nat.le_of_ble_eq_true rfl⟩) (pS hKS.1 hK hN) rfl rfl hl.1 rfl (lv_room (Nat.le_of_ble_eq_true rfl)) dX3_init_46 ⟨Nat.le_of_ble_eq_true rfl, Nat.le_of_ble_eq_true rfl⟩) hKS mq_6 nq_6 pq_6 hA hS tq_6 (fun L1 T1 r1 σ1 ρ1 H locs hKS mq_6 tq_6 hS => ?_)
  refine W.widen (k := 12) (n := 115) (Nat.le_of_ble_eq_true rfl) (Nat.le_of_ble_eq_true rfl) ?_
  refine k_pr hx hb hts hown hin hK hKS hS mq_6 tq_6 fq_18_5 rfl rfl rfl rfl (fun i h1 h2 => absurd h2 (by omega)) (fun _ h => by cases h) mw_1_158 dX3_init_49 (fun r1 H locs hKS _ _ hS => ?_)
  exact W.vret hx hb hr (fun t ht hW => ⟨⟨(), rfl, trivial, hKS.end hn_18 hf_18 ht⟩, hS.F ht⟩) hS.2.2 dX3_init_52
theorem mw_1_228 : (.methodLink RX10 3 objectInit : Cond) ∈ wsA := wsA_t (List.mem_append_left _ (List.mem_of_getElem? (l := tables_1_1) (i := 228) rfl)) rfl
theorem mw_1_229 : (.classLink RX10 9 RX3 : Cond) ∈ wsA := wsA_t (List.mem_append_left _ (List.mem_of_getElem? (l := tables_1_1) (i := 229) rfl)) rfl
theorem mw_1_69 : (.instantiable RX3 11 : Cond) ∈ wsA := wsA_t (List.mem_append_left _ (List.mem_of_getElem? (l := tables_1_1) (i := 69) rfl)) rfl
theorem mw_1_71 : (.instanceMethod yX3_init : Cond) ∈ wsA := wsA_t (List.mem_append_left _ (List.mem_of_getElem? (l := tables_1_1) (i := 71) rfl)) rfl
theorem mw_1_72 : (.code yX3_init cX3_init 1 none : Cond) ∈ wsA := wsA_t (List.mem_append_left _ (List.mem_of_getElem? (l := tables_1_1) (i := 72) rfl)) rfl
theorem mw_1_231 : (.classLink RX10 18 RX8 : Cond) ∈ wsA := wsA_t (List.mem_append_left _ (List.mem_of_getElem? (l := tables_1_1) (i := 231) rfl)) rfl
theorem dX10_init_0 : decode cX10_init 0 = .ok (.aload_n 0, 1) := by decide +kernel
theorem dX10_init_1 : decode cX10_init 1 = .ok (.invokespecial 3, 3) := by decide +kernel
theorem dX10_init_4 : decode cX10_init 4 = .ok (.aload_n 0, 1) := by decide +kernel
theorem dX10_init_5 : decode cX10_init 5 = .ok (.new 9, 3) := by decide +kernel
theorem dX10_init_8 : decode cX10_init 8 = .ok (.dup, 1) := by decide +kernel
theorem dX10_init_9 : decode cX10_init 9 = .ok (.invokespecial 11, 3) := by decide +kernel
theorem dX10_init_12 : decode cX10_init 12 = .ok (.putfield 12, 3) := by decide +kernel
theorem dX10_init_15 : decode cX10_init 15 = .ok (.aload_n 0, 1) := by decide +kernel
theorem dX10_init_16 : decode cX10_init 16 = .ok (.new 18, 3) := by decide +kernel
theorem dX10_init_19 : decode cX10_init 19 = .ok (.dup, 1) := by decide +kernel
theorem dX10_init_20 : decode cX10_init 20 = .ok (.invokespecial 20, 3) := by decide +kernel
theorem dX10_init_23 : decode cX10_init 23 = .ok (.putfield 21, 3) := by decide +kernel
theorem dX10_init_26 : decode cX10_init 26 = .ok (.aload_n 0, 1) := by decide +kernel
theorem dX10_init_27 : decode cX10_init 27 = .ok (.iconst 5, 1) := by decide +kernel
theorem dX10_init_28 : decode cX10_init 28 = .ok (.newarray .int, 2) := by decide +kernel
theorem dX10_init_30 : decode cX10_init 30 = .ok (.putfield 25, 3) := by decide +kernel
theorem dX10_init_33 : decode cX10_init 33 = .ok (.aload_n 0, 1) := by decide +kernel
theorem dX10_init_34 : decode cX10_init 34 = .ok (.bipush 10, 2) := by decide +kernel
theorem dX10_init_36 : decode cX10_init 36 = .ok (.newarray .int, 2) := by decide +kernel
theorem dX10_init_38 : decode cX10_init 38 = .ok (.putfield 29, 3) := by decide +kernel
theorem dX10_init_41 : decode cX10_init 41 = .ok (.aload_n 0, 1) := by decide +kernel
theorem dX10_init_42 : decode cX10_init 42 = .ok (.bipush 10, 2) := by decide +kernel
theorem dX10_init_44 : decode cX10_init 44 = .ok (.newarray .int, 2) := by decide +kernel
theorem dX10_init_46 : decode cX10_init 46 = .ok (.putfield 32, 3) := by decide +kernel
theorem dX10_init_49 : decode cX10_init 49 = .ok (.aload_n 0, 1) := by decide +kernel
theorem dX10_init_50 : decode cX10_init 50 = .ok (.bipush 10, 2) := by decide +kernel
theorem dX10_init_52 : decode cX10_init 52 = .ok (.newarray .int, 2) := by decide +kernel
theorem dX10_init_54 : decode cX10_init 54 = .ok (.putfield 35, 3) := by decide +kernel
theorem dX10_init_57 : decode cX10_init 57 = .ok (.aload_n 0, 1) := by decide +kernel
theorem dX10_init_58 : decode cX10_init 58 = .ok (.iconst (-1), 1) := by decide +kernel
theorem dX10_init_59 : decode cX10_init 59 = .ok (.putfield 38, 3) := by decide +kernel
theorem dX10_init_62 : decode cX10_init 62 = .ok (.return_, 1) := by decide +kernel
theorem mi_X3_init : MI yX3_init cX3_init 1 0 := ⟨mw_1_71, mw_1_4, mw_1_72, rfl, by decide, by decide, by decide +kernel⟩
theorem hn_10 : ∀ k t : Nat, fT 10 k = some t → k < 6 := fun k t h => match k, h with | 0, h => by decide | 1, h => by decide | 2, h => by decide | 3, h => by decide | 4, h => by decide | 5, h => by decide | 6, h => nomatch h | 7, h => nomatch h | 8, h => nomatch h | k + 9, h => nomatch h
theorem hf_10 : ∀ j : Nat, va_up (fun _ => (0 : Int32)) 7 (-1) j = ini 10 j := fun j => by unfold ini va_up; by_cases hj : j = 7 <;> simp [hj]
set_option maxHeartbeats 4000000 in
set_option maxRecDepth 100000 in
theorem kk_X10_init_10 (l : Launch) (D : va_G) (cA : Nat → ClassId) (L : List Nat) (T : Nat → Nat) (r : Rg) (σ : Sg) (ρ : Lg) (hL : L.Nodup) (sz : Nat) (h0 : Nat) (mh0 : h0 ∈ L) (th0 : T h0 = 10) (z0 : ∀ j, σ h0 j = 0) : Met l yX10_init (.code yX10_init cX10_init 1 none :: wsA) ({ frames := 3, cells := 24, slots := 245, locals := 80 }) (PR D cA L T r σ ρ sz [.ref h0]) (va_Qv (fun _ : Unit => True) (fun _ t => KQ D cA L T r σ h0 sz t) (dm L sz)) 24 245 (dm L sz) := by
  refine Met.ofW (cc := cX10_init) (maxL := 1) (ret := none) (by decide) rfl ?_
  intro p e s m args below meth c s₁ B hml hv
  obtain ⟨rfl, hsz, hP, hK, hN⟩ := hv
  have hx := B.exec
  have hb := B.bytes
  have hr := B.returns
  have hts : ∀ w ∈ wsA, w.before _ s = true := fun w h => atoms_spec (ws := .code yX10_init cX10_init 1 none :: wsA) B.pre w (List.mem_cons_of_mem _ h)
  have hown : s.vm.findClass RX10 = some m.cls := findClass_of_methodNamed B.named
  have hin : meth.name = "<init>" := (name_of_methodNamed B.named B.method).1
  subst hsz
  have hKS := KS.begin (sz := s.heap.size) hP ⟨hL, fun a h => Or.inl h⟩ mh0 th0 z0
  have hA : ∀ q : Nat, s.heap.size ≤ q → dm L s.heap.size q := fun q h => Or.inr h
  have hS : va_S (dm L s.heap.size) s.heap s.heap [] := va_S.rf
  have hl := lv_entry ([.ref h0]) (n := 1) (Nat.le_of_ble_eq_true rfl)
  rw [lg_entry_eq]
  generalize (lg_sl ([.ref h0]) ++ List.replicate (1 - (lg_sl ([.ref h0])).length) Slot.unset).toArray = ls at hl ⊢
  have hl : lv_has ls 1 [(0, .ref h0)] := hl
  refine lv_aload_n hx hb dX10_init_0 rfl (lv_at hl 0 rfl) ?_
  refine W.objInit hx hb hown (hts _ mw_1_228) (hts _ mw_1_28) (hts _ mw_1_29) rfl (by rw [hml]; exact hl.1) rfl dX10_init_1 (Nat.le_of_ble_eq_true rfl) (Nat.le_of_ble_eq_true rfl) ?_
  refine W.eq (g2 := F0 m 4 ls []) rfl ?_
  refine lv_aload_n hx hb dX10_init_4 rfl (lv_at hl 0 rfl) ?_
  refine k_no (t := 3) (ci := 3) (TT := TX3) hx hb hts lay3 tyX3_ok hown mw_1_229 mw_1_69 mw_1_4 hK hKS hS hA rfl rfl (fun j hj => by rcases (show j = 0 ∨ j = 1 ∨ j = 2 ∨ j = 3 ∨ j = 4 ∨ j = 5 ∨ j = 6 ∨ j = 7 ∨ j = 8 ∨ j = 9 ∨ j = 10 by omega) with rfl | rfl | rfl | rfl | rfl | rfl | rfl | rfl | rfl | rfl | rfl <;> rfl) (Nat.le_of_ble_eq_true rfl) (Nat.le_of_ble_eq_true rfl) dX10_init_5 (fun q_1 L1 T1 r1 σ1 ρ1 H hKS mq_1 tq_1 zq_1 nq_1 pq_1 hS => ?_)
  refine W.widen (k := 1) (n := 11) (Nat.le_of_ble_eq_true rfl) (Nat.le_of_ble_eq_true rfl) ?_
  refine lv_dup hx hb dX10_init_8 rfl ?_
  refine k_ci (va_runIN (As := []) (rest := [.ref q_1, .ref h0]) ⟨hx, hb, hml, hown, hts⟩ (kk_X3_init_3 l D cA _ _ _ _ _ hKS.2.1.1 _ q_1 mq_1 tq_1 zq_1) (cIN hts mi_X3_init hN (show (RX10, 11, yX3_init, RX11) ∈ nwL by decide +kernel) rfl rfl ⟨Nat.le_of_ble_eq_true rfl, Nat.le_of_ble_eq_true rfl⟩) (pS hKS.1 hK hN) rfl rfl hl.1 rfl (lv_room (Nat.le_of_ble_eq_true rfl)) dX10_init_9 ⟨Nat.le_of_ble_eq_true rfl, Nat.le_of_ble_eq_true rfl⟩) hKS mq_1 nq_1 pq_1 hA hS tq_1 (fun L1 T1 r1 σ1 ρ1 H locs hKS mq_1 tq_1 hS => ?_)
  refine W.widen (k := 13) (n := 126) (Nat.le_of_ble_eq_true rfl) (Nat.le_of_ble_eq_true rfl) ?_
  refine k_pr hx hb hts hown hin hK hKS hS mq_1 tq_1 fq_10_0 rfl rfl rfl rfl (fun i h1 h2 => absurd h2 (by omega)) (fun _ h => by cases h) mw_1_233 dX10_init_12 (fun r1 H locs hKS _ _ hS => ?_)
  refine lv_aload_n hx hb dX10_init_15 rfl (lv_at hl 0 rfl) ?_
  refine k_no (t := 8) (ci := 8) (TT := TX8) hx hb hts lay8 tyX8_ok hown mw_1_231 mw_1_75 mw_1_5 hK hKS hS hA rfl rfl (fun j hj => by rcases (show j = 0 ∨ j = 1 ∨ j = 2 ∨ j = 3 ∨ j = 4 ∨ j = 5 ∨ j = 6 ∨ j = 7 by omega) with rfl | rfl | rfl | rfl | rfl | rfl | rfl | rfl <;> rfl) (Nat.le_of_ble_eq_true rfl) (Nat.le_of_ble_eq_true rfl) dX10_init_16 (fun q_2 L1 T1 r1 σ1 ρ1 H hKS mq_2 tq_2 zq_2 nq_2 pq_2 hS => ?_)
  refine W.widen (k := 14) (n := 134) (Nat.le_of_ble_eq_true rfl) (Nat.le_of_ble_eq_true rfl) ?_
  refine lv_dup hx hb dX10_init_19 rfl ?_
  refine k_ci (va_runIN (As := []) (rest := [.ref q_2, .ref h0]) ⟨hx, hb, hml, hown, hts⟩ (kk_X8_init_8 l D cA _ _ _ _ _ hKS.2.1.1 _ q_2 mq_2 tq_2 zq_2) (cIN hts mi_X8_init hN (show (RX10, 20, yX8_init, RX11) ∈ nwL by decide +kernel) rfl rfl ⟨Nat.le_of_ble_eq_true rfl, Nat.le_of_ble_eq_true rfl⟩) (pS hKS.1 hK hN) rfl rfl hl.1 rfl (lv_room (Nat.le_of_ble_eq_true rfl)) dX10_init_20 ⟨Nat.le_of_ble_eq_true rfl, Nat.le_of_ble_eq_true rfl⟩) hKS mq_2 nq_2 pq_2 hA hS tq_2 (fun L1 T1 r1 σ1 ρ1 H locs hKS mq_2 tq_2 hS => ?_)
  refine W.widen (k := 20) (n := 210) (Nat.le_of_ble_eq_true rfl) (Nat.le_of_ble_eq_true rfl) ?_
  refine k_pr hx hb hts hown hin hK hKS hS mq_2 tq_2 fq_10_1 rfl rfl rfl rfl (fun i h1 h2 => absurd h2 (by omega)) (fun _ h => by cases h) mw_1_237 dX10_init_23 (fun r1 H locs hKS _ _ hS => ?_)
  refine lv_aload_n hx hb dX10_init_26 rfl (lv_at hl 0 rfl) ?_
  refine lv_iconst (v := 5) hx hb dX10_init_27 (by decide) ?_
  refine k_na (atype := .int) (t := 55) (ki := 1) (a0 := (5, .inl (fun _ => 0))) hx hb hts mw_1_61 rfl (fun C h => by cases h) hK rfl hKS hS hA rfl (fun _ => rfl) (fun j => i0_55 j) (fun _ => rfl) (by decide) rfl (by decide) (Nat.le_of_ble_eq_true rfl) (Nat.le_of_ble_eq_true rfl) dX10_init_28 (fun q_3 L1 T1 r1 σ1 ρ1 H hKS mq_3 tq_3 hS => ?_)
  refine W.widen (k := 21) (n := 215) (Nat.le_of_ble_eq_true rfl) (Nat.le_of_ble_eq_true rfl) ?_
  refine k_pr hx hb hts hown hin hK hKS hS mq_3 tq_3 fq_10_2 rfl rfl rfl rfl (fun i h1 h2 => absurd h2 (by omega)) (fun _ h => by cases h) mw_2_0 dX10_init_30 (fun r1 H locs hKS _ _ hS => ?_)
  refine lv_aload_n hx hb dX10_init_33 rfl (lv_at hl 0 rfl) ?_
  refine lv_bipush (v := 10) hx hb dX10_init_34 (by decide) ?_
  refine k_na (atype := .int) (t := 56) (ki := 1) (a0 := (10, .inl (fun _ => 0))) hx hb hts mw_1_61 rfl (fun C h => by cases h) hK rfl hKS hS hA rfl (fun _ => rfl) (fun j => i0_56 j) (fun _ => rfl) (by decide) rfl (by decide) (Nat.le_of_ble_eq_true rfl) (Nat.le_of_ble_eq_true rfl) dX10_init_36 (fun q_4 L1 T1 r1 σ1 ρ1 H hKS mq_4 tq_4 hS => ?_)
  refine W.widen (k := 22) (n := 225) (Nat.le_of_ble_eq_true rfl) (Nat.le_of_ble_eq_true rfl) ?_
  refine k_pr hx hb hts hown hin hK hKS hS mq_4 tq_4 fq_10_3 rfl rfl rfl rfl (fun i h1 h2 => absurd h2 (by omega)) (fun _ h => by cases h) mw_2_2 dX10_init_38 (fun r1 H locs hKS _ _ hS => ?_)
  refine lv_aload_n hx hb dX10_init_41 rfl (lv_at hl 0 rfl) ?_
  refine lv_bipush (v := 10) hx hb dX10_init_42 (by decide) ?_
  refine k_na (atype := .int) (t := 57) (ki := 1) (a0 := (10, .inl (fun _ => 0))) hx hb hts mw_1_61 rfl (fun C h => by cases h) hK rfl hKS hS hA rfl (fun _ => rfl) (fun j => i0_57 j) (fun _ => rfl) (by decide) rfl (by decide) (Nat.le_of_ble_eq_true rfl) (Nat.le_of_ble_eq_true rfl) dX10_init_44 (fun q_5 L1 T1 r1 σ1 ρ1 H hKS mq_5 tq_5 hS => ?_)
  refine W.widen (k := 23) (n := 235) (Nat.le_of_ble_eq_true rfl) (Nat.le_of_ble_eq_true rfl) ?_
  refine k_pr hx hb hts hown hin hK hKS hS mq_5 tq_5 fq_10_4 rfl rfl rfl rfl (fun i h1 h2 => absurd h2 (by omega)) (fun _ h => by cases h) mw_2_5 dX10_init_46 (fun r1 H locs hKS _ _ hS => ?_)
  refine lv_aload_n hx hb dX10_init_49 rfl (lv_at hl 0 rfl) ?_
  refine lv_bipush (v := 10) hx hb dX10_init_50 (by decide) ?_
  refine k_na (atype := .int) (t := 58) (ki := 1) (a0 := (10, .inl (fun _ => 0))) hx hb hts mw_1_61 rfl (fun C h => by cases h) hK rfl hKS hS hA rfl (fun _ => rfl) (fun j => i0_58 j) (fun _ => rfl) (by decide) rfl (by decide) (Nat.le_of_ble_eq_true rfl) (Nat.le_of_ble_eq_true rfl) dX10_init_52 (fun q_6 L1 T1 r1 σ1 ρ1 H hKS mq_6 tq_6 hS => ?_)
  refine W.widen (k := 24) (n := 245) (Nat.le_of_ble_eq_true rfl) (Nat.le_of_ble_eq_true rfl) ?_
  refine k_pr hx hb hts hown hin hK hKS hS mq_6 tq_6 fq_10_5 rfl rfl rfl rfl (fun i h1 h2 => absurd h2 (by omega)) (fun _ h => by cases h) mw_2_8 dX10_init_54 (fun r1 H locs hKS _ _ hS => ?_)
  refine lv_aload_n hx hb dX10_init_57 rfl (lv_at hl 0 rfl) ?_
  refine lv_iconst (v := (-1)) hx hb dX10_init_58 (by decide) ?_
  refine k_pi hx hb hts hown hK hKS hS fi_10_7 rfl rfl mw_2_14 dX10_init_59 (fun σ1 H locs hKS hS => ?_)
  exact W.vret hx hb hr (fun t ht hW => ⟨⟨(), rfl, trivial, hKS.end hn_10 hf_10 ht⟩, hS.F ht⟩) hS.2.2 dX10_init_62
theorem hn_13 : ∀ k t : Nat, fT 13 k = some t → k < 6 := fun k t h => match k, h with | 0, h => by decide | 1, h => by decide | 2, h => by decide | 3, h => by decide | 4, h => by decide | 5, h => by decide | 6, h => nomatch h | 7, h => nomatch h | 8, h => nomatch h | k + 9, h => nomatch h
theorem hf_13 : ∀ j : Nat, va_up (fun _ => (0 : Int32)) 7 (-1) j = ini 13 j := fun j => by unfold ini va_up; by_cases hj : j = 7 <;> simp [hj]
set_option maxHeartbeats 4000000 in
set_option maxRecDepth 100000 in
theorem kk_X10_init_13 (l : Launch) (D : va_G) (cA : Nat → ClassId) (L : List Nat) (T : Nat → Nat) (r : Rg) (σ : Sg) (ρ : Lg) (hL : L.Nodup) (sz : Nat) (h0 : Nat) (mh0 : h0 ∈ L) (th0 : T h0 = 13) (z0 : ∀ j, σ h0 j = 0) : Met l yX10_init (.code yX10_init cX10_init 1 none :: wsA) ({ frames := 3, cells := 24, slots := 245, locals := 80 }) (PR D cA L T r σ ρ sz [.ref h0]) (va_Qv (fun _ : Unit => True) (fun _ t => KQ D cA L T r σ h0 sz t) (dm L sz)) 24 245 (dm L sz) := by
  refine Met.ofW (cc := cX10_init) (maxL := 1) (ret := none) (by decide) rfl ?_
  intro p e s m args below meth c s₁ B hml hv
  obtain ⟨rfl, hsz, hP, hK, hN⟩ := hv
  have hx := B.exec
  have hb := B.bytes
  have hr := B.returns
  have hts : ∀ w ∈ wsA, w.before _ s = true := fun w h => atoms_spec (ws := .code yX10_init cX10_init 1 none :: wsA) B.pre w (List.mem_cons_of_mem _ h)
  have hown : s.vm.findClass RX10 = some m.cls := findClass_of_methodNamed B.named
  have hin : meth.name = "<init>" := (name_of_methodNamed B.named B.method).1
  subst hsz
  have hKS := KS.begin (sz := s.heap.size) hP ⟨hL, fun a h => Or.inl h⟩ mh0 th0 z0
  have hA : ∀ q : Nat, s.heap.size ≤ q → dm L s.heap.size q := fun q h => Or.inr h
  have hS : va_S (dm L s.heap.size) s.heap s.heap [] := va_S.rf
  have hl := lv_entry ([.ref h0]) (n := 1) (Nat.le_of_ble_eq_true rfl)
  rw [lg_entry_eq]
  generalize (lg_sl ([.ref h0]) ++ List.replicate (1 - (lg_sl ([.ref h0])).length) Slot.unset).toArray = ls at hl ⊢
  have hl : lv_has ls 1 [(0, .ref h0)] := hl
  refine lv_aload_n hx hb dX10_init_0 rfl (lv_at hl 0 rfl) ?_
  refine W.objInit hx hb hown (hts _ mw_1_228) (hts _ mw_1_28) (hts _ mw_1_29) rfl (by rw [hml]; exact hl.1) rfl dX10_init_1 (Nat.le_of_ble_eq_true rfl) (Nat.le_of_ble_eq_true rfl) ?_
  refine W.eq (g2 := F0 m 4 ls []) rfl ?_
  refine lv_aload_n hx hb dX10_init_4 rfl (lv_at hl 0 rfl) ?_
  refine k_no (t := 18) (ci := 3) (TT := TX3) hx hb hts lay3 tyX3_ok hown mw_1_229 mw_1_69 mw_1_4 hK hKS hS hA rfl rfl (fun j hj => by rcases (show j = 0 ∨ j = 1 ∨ j = 2 ∨ j = 3 ∨ j = 4 ∨ j = 5 ∨ j = 6 ∨ j = 7 ∨ j = 8 ∨ j = 9 ∨ j = 10 by omega) with rfl | rfl | rfl | rfl | rfl | rfl | rfl | rfl | rfl | rfl | rfl <;> rfl) (Nat.le_of_ble_eq_true rfl) (Nat.le_of_ble_eq_true rfl) dX10_init_5 (fun q_1 L1 T1 r1 σ1 ρ1 H hKS mq_1 tq_1 zq_1 nq_1 pq_1 hS => ?_)
  refine W.widen (k := 1) (n := 11) (Nat.le_of_ble_eq_true rfl) (Nat.le_of_ble_eq_true rfl) ?_
  refine lv_dup hx hb dX10_init_8 rfl ?_
  refine k_ci (va_runIN (As := []) (rest := [.ref q_1, .ref h0]) ⟨hx, hb, hml, hown, hts⟩ (kk_X3_init_18 l D cA _ _ _ _ _ hKS.2.1.1 _ q_1 mq_1 tq_1 zq_1) (cIN hts mi_X3_init hN (show (RX10, 11, yX3_init, RX11) ∈ nwL by decide +kernel) rfl rfl ⟨Nat.le_of_ble_eq_true rfl, Nat.le_of_ble_eq_true rfl⟩) (pS hKS.1 hK hN) rfl rfl hl.1 rfl (lv_room (Nat.le_of_ble_eq_true rfl)) dX10_init_9 ⟨Nat.le_of_ble_eq_true rfl, Nat.le_of_ble_eq_true rfl⟩) hKS mq_1 nq_1 pq_1 hA hS tq_1 (fun L1 T1 r1 σ1 ρ1 H locs hKS mq_1 tq_1 hS => ?_)
  refine W.widen (k := 13) (n := 126) (Nat.le_of_ble_eq_true rfl) (Nat.le_of_ble_eq_true rfl) ?_
  refine k_pr hx hb hts hown hin hK hKS hS mq_1 tq_1 fq_13_0 rfl rfl rfl rfl (fun i h1 h2 => absurd h2 (by omega)) (fun _ h => by cases h) mw_1_233 dX10_init_12 (fun r1 H locs hKS _ _ hS => ?_)
  refine lv_aload_n hx hb dX10_init_15 rfl (lv_at hl 0 rfl) ?_
  refine k_no (t := 105) (ci := 8) (TT := TX8) hx hb hts lay8 tyX8_ok hown mw_1_231 mw_1_75 mw_1_5 hK hKS hS hA rfl rfl (fun j hj => by rcases (show j = 0 ∨ j = 1 ∨ j = 2 ∨ j = 3 ∨ j = 4 ∨ j = 5 ∨ j = 6 ∨ j = 7 by omega) with rfl | rfl | rfl | rfl | rfl | rfl | rfl | rfl <;> rfl) (Nat.le_of_ble_eq_true rfl) (Nat.le_of_ble_eq_true rfl) dX10_init_16 (fun q_2 L1 T1 r1 σ1 ρ1 H hKS mq_2 tq_2 zq_2 nq_2 pq_2 hS => ?_)
  refine W.widen (k := 14) (n := 134) (Nat.le_of_ble_eq_true rfl) (Nat.le_of_ble_eq_true rfl) ?_
  refine lv_dup hx hb dX10_init_19 rfl ?_
  refine k_ci (va_runIN (As := []) (rest := [.ref q_2, .ref h0]) ⟨hx, hb, hml, hown, hts⟩ (kk_X8_init_105 l D cA _ _ _ _ _ hKS.2.1.1 _ q_2 mq_2 tq_2 zq_2) (cIN hts mi_X8_init hN (show (RX10, 20, yX8_init, RX11) ∈ nwL by decide +kernel) rfl rfl ⟨Nat.le_of_ble_eq_true rfl, Nat.le_of_ble_eq_true rfl⟩) (pS hKS.1 hK hN) rfl rfl hl.1 rfl (lv_room (Nat.le_of_ble_eq_true rfl)) dX10_init_20 ⟨Nat.le_of_ble_eq_true rfl, Nat.le_of_ble_eq_true rfl⟩) hKS mq_2 nq_2 pq_2 hA hS tq_2 (fun L1 T1 r1 σ1 ρ1 H locs hKS mq_2 tq_2 hS => ?_)
  refine W.widen (k := 20) (n := 210) (Nat.le_of_ble_eq_true rfl) (Nat.le_of_ble_eq_true rfl) ?_
  refine k_pr hx hb hts hown hin hK hKS hS mq_2 tq_2 fq_13_1 rfl rfl rfl rfl (fun i h1 h2 => absurd h2 (by omega)) (fun _ h => by cases h) mw_1_237 dX10_init_23 (fun r1 H locs hKS _ _ hS => ?_)
  refine lv_aload_n hx hb dX10_init_26 rfl (lv_at hl 0 rfl) ?_
  refine lv_iconst (v := 5) hx hb dX10_init_27 (by decide) ?_
  refine k_na (atype := .int) (t := 86) (ki := 1) (a0 := (5, .inl (fun _ => 0))) hx hb hts mw_1_61 rfl (fun C h => by cases h) hK rfl hKS hS hA rfl (fun _ => rfl) (fun j => i0_86 j) (fun _ => rfl) (by decide) rfl (by decide) (Nat.le_of_ble_eq_true rfl) (Nat.le_of_ble_eq_true rfl) dX10_init_28 (fun q_3 L1 T1 r1 σ1 ρ1 H hKS mq_3 tq_3 hS => ?_)
  refine W.widen (k := 21) (n := 215) (Nat.le_of_ble_eq_true rfl) (Nat.le_of_ble_eq_true rfl) ?_
  refine k_pr hx hb hts hown hin hK hKS hS mq_3 tq_3 fq_13_2 rfl rfl rfl rfl (fun i h1 h2 => absurd h2 (by omega)) (fun _ h => by cases h) mw_2_0 dX10_init_30 (fun r1 H locs hKS _ _ hS => ?_)
  refine lv_aload_n hx hb dX10_init_33 rfl (lv_at hl 0 rfl) ?_
  refine lv_bipush (v := 10) hx hb dX10_init_34 (by decide) ?_
  refine k_na (atype := .int) (t := 87) (ki := 1) (a0 := (10, .inl (fun _ => 0))) hx hb hts mw_1_61 rfl (fun C h => by cases h) hK rfl hKS hS hA rfl (fun _ => rfl) (fun j => i0_87 j) (fun _ => rfl) (by decide) rfl (by decide) (Nat.le_of_ble_eq_true rfl) (Nat.le_of_ble_eq_true rfl) dX10_init_36 (fun q_4 L1 T1 r1 σ1 ρ1 H hKS mq_4 tq_4 hS => ?_)
  refine W.widen (k := 22) (n := 225) (Nat.le_of_ble_eq_true rfl) (Nat.le_of_ble_eq_true rfl) ?_
  refine k_pr hx hb hts hown hin hK hKS hS mq_4 tq_4 fq_13_3 rfl rfl rfl rfl (fun i h1 h2 => absurd h2 (by omega)) (fun _ h => by cases h) mw_2_2 dX10_init_38 (fun r1 H locs hKS _ _ hS => ?_)
  refine lv_aload_n hx hb dX10_init_41 rfl (lv_at hl 0 rfl) ?_
  refine lv_bipush (v := 10) hx hb dX10_init_42 (by decide) ?_
  refine k_na (atype := .int) (t := 88) (ki := 1) (a0 := (10, .inl (fun _ => 0))) hx hb hts mw_1_61 rfl (fun C h => by cases h) hK rfl hKS hS hA rfl (fun _ => rfl) (fun j => i0_88 j) (fun _ => rfl) (by decide) rfl (by decide) (Nat.le_of_ble_eq_true rfl) (Nat.le_of_ble_eq_true rfl) dX10_init_44 (fun q_5 L1 T1 r1 σ1 ρ1 H hKS mq_5 tq_5 hS => ?_)
  refine W.widen (k := 23) (n := 235) (Nat.le_of_ble_eq_true rfl) (Nat.le_of_ble_eq_true rfl) ?_
  refine k_pr hx hb hts hown hin hK hKS hS mq_5 tq_5 fq_13_4 rfl rfl rfl rfl (fun i h1 h2 => absurd h2 (by omega)) (fun _ h => by cases h) mw_2_5 dX10_init_46 (fun r1 H locs hKS _ _ hS => ?_)
  refine lv_aload_n hx hb dX10_init_49 rfl (lv_at hl 0 rfl) ?_
  refine lv_bipush (v := 10) hx hb dX10_init_50 (by decide) ?_
  refine k_na (atype := .int) (t := 89) (ki := 1) (a0 := (10, .inl (fun _ => 0))) hx hb hts mw_1_61 rfl (fun C h => by cases h) hK rfl hKS hS hA rfl (fun _ => rfl) (fun j => i0_89 j) (fun _ => rfl) (by decide) rfl (by decide) (Nat.le_of_ble_eq_true rfl) (Nat.le_of_ble_eq_true rfl) dX10_init_52 (fun q_6 L1 T1 r1 σ1 ρ1 H hKS mq_6 tq_6 hS => ?_)
  refine W.widen (k := 24) (n := 245) (Nat.le_of_ble_eq_true rfl) (Nat.le_of_ble_eq_true rfl) ?_
  refine k_pr hx hb hts hown hin hK hKS hS mq_6 tq_6 fq_13_5 rfl rfl rfl rfl (fun i h1 h2 => absurd h2 (by omega)) (fun _ h => by cases h) mw_2_8 dX10_init_54 (fun r1 H locs hKS _ _ hS => ?_)
  refine lv_aload_n hx hb dX10_init_57 rfl (lv_at hl 0 rfl) ?_
  refine lv_iconst (v := (-1)) hx hb dX10_init_58 (by decide) ?_
  refine k_pi hx hb hts hown hK hKS hS fi_13_7 rfl rfl mw_2_14 dX10_init_59 (fun σ1 H locs hKS hS => ?_)
  exact W.vret hx hb hr (fun t ht hW => ⟨⟨(), rfl, trivial, hKS.end hn_13 hf_13 ht⟩, hS.F ht⟩) hS.2.2 dX10_init_62
theorem hn_14 : ∀ k t : Nat, fT 14 k = some t → k < 6 := fun k t h => match k, h with | 0, h => by decide | 1, h => by decide | 2, h => by decide | 3, h => by decide | 4, h => by decide | 5, h => by decide | 6, h => nomatch h | 7, h => nomatch h | 8, h => nomatch h | k + 9, h => nomatch h
theorem hf_14 : ∀ j : Nat, va_up (fun _ => (0 : Int32)) 7 (-1) j = ini 14 j := fun j => by unfold ini va_up; by_cases hj : j = 7 <;> simp [hj]
set_option maxHeartbeats 4000000 in
set_option maxRecDepth 100000 in
theorem kk_X10_init_14 (l : Launch) (D : va_G) (cA : Nat → ClassId) (L : List Nat) (T : Nat → Nat) (r : Rg) (σ : Sg) (ρ : Lg) (hL : L.Nodup) (sz : Nat) (h0 : Nat) (mh0 : h0 ∈ L) (th0 : T h0 = 14) (z0 : ∀ j, σ h0 j = 0) : Met l yX10_init (.code yX10_init cX10_init 1 none :: wsA) ({ frames := 3, cells := 24, slots := 245, locals := 80 }) (PR D cA L T r σ ρ sz [.ref h0]) (va_Qv (fun _ : Unit => True) (fun _ t => KQ D cA L T r σ h0 sz t) (dm L sz)) 24 245 (dm L sz) := by
  refine Met.ofW (cc := cX10_init) (maxL := 1) (ret := none) (by decide) rfl ?_
  intro p e s m args below meth c s₁ B hml hv
  obtain ⟨rfl, hsz, hP, hK, hN⟩ := hv
  have hx := B.exec
  have hb := B.bytes
  have hr := B.returns
  have hts : ∀ w ∈ wsA, w.before _ s = true := fun w h => atoms_spec (ws := .code yX10_init cX10_init 1 none :: wsA) B.pre w (List.mem_cons_of_mem _ h)
  have hown : s.vm.findClass RX10 = some m.cls := findClass_of_methodNamed B.named
  have hin : meth.name = "<init>" := (name_of_methodNamed B.named B.method).1
  subst hsz
  have hKS := KS.begin (sz := s.heap.size) hP ⟨hL, fun a h => Or.inl h⟩ mh0 th0 z0
  have hA : ∀ q : Nat, s.heap.size ≤ q → dm L s.heap.size q := fun q h => Or.inr h
  have hS : va_S (dm L s.heap.size) s.heap s.heap [] := va_S.rf
  have hl := lv_entry ([.ref h0]) (n := 1) (Nat.le_of_ble_eq_true rfl)
  rw [lg_entry_eq]
  generalize (lg_sl ([.ref h0]) ++ List.replicate (1 - (lg_sl ([.ref h0])).length) Slot.unset).toArray = ls at hl ⊢
  have hl : lv_has ls 1 [(0, .ref h0)] := hl
  refine lv_aload_n hx hb dX10_init_0 rfl (lv_at hl 0 rfl) ?_
  refine W.objInit hx hb hown (hts _ mw_1_228) (hts _ mw_1_28) (hts _ mw_1_29) rfl (by rw [hml]; exact hl.1) rfl dX10_init_1 (Nat.le_of_ble_eq_true rfl) (Nat.le_of_ble_eq_true rfl) ?_
  refine W.eq (g2 := F0 m 4 ls []) rfl ?_
  refine lv_aload_n hx hb dX10_init_4 rfl (lv_at hl 0 rfl) ?_
  refine k_no (t := 18) (ci := 3) (TT := TX3) hx hb hts lay3 tyX3_ok hown mw_1_229 mw_1_69 mw_1_4 hK hKS hS hA rfl rfl (fun j hj => by rcases (show j = 0 ∨ j = 1 ∨ j = 2 ∨ j = 3 ∨ j = 4 ∨ j = 5 ∨ j = 6 ∨ j = 7 ∨ j = 8 ∨ j = 9 ∨ j = 10 by omega) with rfl | rfl | rfl | rfl | rfl | rfl | rfl | rfl | rfl | rfl | rfl <;> rfl) (Nat.le_of_ble_eq_true rfl) (Nat.le_of_ble_eq_true rfl) dX10_init_5 (fun q_1 L1 T1 r1 σ1 ρ1 H hKS mq_1 tq_1 zq_1 nq_1 pq_1 hS => ?_)
  refine W.widen (k := 1) (n := 11) (Nat.le_of_ble_eq_true rfl) (Nat.le_of_ble_eq_true rfl) ?_
  refine lv_dup hx hb dX10_init_8 rfl ?_
  refine k_ci (va_runIN (As := []) (rest := [.ref q_1, .ref h0]) ⟨hx, hb, hml, hown, hts⟩ (kk_X3_init_18 l D cA _ _ _ _ _ hKS.2.1.1 _ q_1 mq_1 tq_1 zq_1) (cIN hts mi_X3_init hN (show (RX10, 11, yX3_init, RX11) ∈ nwL by decide +kernel) rfl rfl ⟨Nat.le_of_ble_eq_true rfl, Nat.le_of_ble_eq_true rfl⟩) (pS hKS.1 hK hN) rfl rfl hl.1 rfl (lv_room (Nat.le_of_ble_eq_true rfl)) dX10_init_9 ⟨Nat.le_of_ble_eq_true rfl, Nat.le_of_ble_eq_true rfl⟩) hKS mq_1 nq_1 pq_1 hA hS tq_1 (fun L1 T1 r1 σ1 ρ1 H locs hKS mq_1 tq_1 hS => ?_)
  refine W.widen (k := 13) (n := 126) (Nat.le_of_ble_eq_true rfl) (Nat.le_of_ble_eq_true rfl) ?_
  refine k_pr hx hb hts hown hin hK hKS hS mq_1 tq_1 fq_14_0 rfl rfl rfl rfl (fun i h1 h2 => absurd h2 (by omega)) (fun _ h => by cases h) mw_1_233 dX10_init_12 (fun r1 H locs hKS _ _ hS => ?_)
  refine lv_aload_n hx hb dX10_init_15 rfl (lv_at hl 0 rfl) ?_
  refine k_no (t := 105) (ci := 8) (TT := TX8) hx hb hts lay8 tyX8_ok hown mw_1_231 mw_1_75 mw_1_5 hK hKS hS hA rfl rfl (fun j hj => by rcases (show j = 0 ∨ j = 1 ∨ j = 2 ∨ j = 3 ∨ j = 4 ∨ j = 5 ∨ j = 6 ∨ j = 7 by omega) with rfl | rfl | rfl | rfl | rfl | rfl | rfl | rfl <;> rfl) (Nat.le_of_ble_eq_true rfl) (Nat.le_of_ble_eq_true rfl) dX10_init_16 (fun q_2 L1 T1 r1 σ1 ρ1 H hKS mq_2 tq_2 zq_2 nq_2 pq_2 hS => ?_)
  refine W.widen (k := 14) (n := 134) (Nat.le_of_ble_eq_true rfl) (Nat.le_of_ble_eq_true rfl) ?_
  refine lv_dup hx hb dX10_init_19 rfl ?_
  refine k_ci (va_runIN (As := []) (rest := [.ref q_2, .ref h0]) ⟨hx, hb, hml, hown, hts⟩ (kk_X8_init_105 l D cA _ _ _ _ _ hKS.2.1.1 _ q_2 mq_2 tq_2 zq_2) (cIN hts mi_X8_init hN (show (RX10, 20, yX8_init, RX11) ∈ nwL by decide +kernel) rfl rfl ⟨Nat.le_of_ble_eq_true rfl, Nat.le_of_ble_eq_true rfl⟩) (pS hKS.1 hK hN) rfl rfl hl.1 rfl (lv_room (Nat.le_of_ble_eq_true rfl)) dX10_init_20 ⟨Nat.le_of_ble_eq_true rfl, Nat.le_of_ble_eq_true rfl⟩) hKS mq_2 nq_2 pq_2 hA hS tq_2 (fun L1 T1 r1 σ1 ρ1 H locs hKS mq_2 tq_2 hS => ?_)
  refine W.widen (k := 20) (n := 210) (Nat.le_of_ble_eq_true rfl) (Nat.le_of_ble_eq_true rfl) ?_
  refine k_pr hx hb hts hown hin hK hKS hS mq_2 tq_2 fq_14_1 rfl rfl rfl rfl (fun i h1 h2 => absurd h2 (by omega)) (fun _ h => by cases h) mw_1_237 dX10_init_23 (fun r1 H locs hKS _ _ hS => ?_)
  refine lv_aload_n hx hb dX10_init_26 rfl (lv_at hl 0 rfl) ?_
  refine lv_iconst (v := 5) hx hb dX10_init_27 (by decide) ?_
  refine k_na (atype := .int) (t := 86) (ki := 1) (a0 := (5, .inl (fun _ => 0))) hx hb hts mw_1_61 rfl (fun C h => by cases h) hK rfl hKS hS hA rfl (fun _ => rfl) (fun j => i0_86 j) (fun _ => rfl) (by decide) rfl (by decide) (Nat.le_of_ble_eq_true rfl) (Nat.le_of_ble_eq_true rfl) dX10_init_28 (fun q_3 L1 T1 r1 σ1 ρ1 H hKS mq_3 tq_3 hS => ?_)
  refine W.widen (k := 21) (n := 215) (Nat.le_of_ble_eq_true rfl) (Nat.le_of_ble_eq_true rfl) ?_
  refine k_pr hx hb hts hown hin hK hKS hS mq_3 tq_3 fq_14_2 rfl rfl rfl rfl (fun i h1 h2 => absurd h2 (by omega)) (fun _ h => by cases h) mw_2_0 dX10_init_30 (fun r1 H locs hKS _ _ hS => ?_)
  refine lv_aload_n hx hb dX10_init_33 rfl (lv_at hl 0 rfl) ?_
  refine lv_bipush (v := 10) hx hb dX10_init_34 (by decide) ?_
  refine k_na (atype := .int) (t := 87) (ki := 1) (a0 := (10, .inl (fun _ => 0))) hx hb hts mw_1_61 rfl (fun C h => by cases h) hK rfl hKS hS hA rfl (fun _ => rfl) (fun j => i0_87 j) (fun _ => rfl) (by decide) rfl (by decide) (Nat.le_of_ble_eq_true rfl) (Nat.le_of_ble_eq_true rfl) dX10_init_36 (fun q_4 L1 T1 r1 σ1 ρ1 H hKS mq_4 tq_4 hS => ?_)
  refine W.widen (k := 22) (n := 225) (Nat.le_of_ble_eq_true rfl) (Nat.le_of_ble_eq_true rfl) ?_
  refine k_pr hx hb hts hown hin hK hKS hS mq_4 tq_4 fq_14_3 rfl rfl rfl rfl (fun i h1 h2 => absurd h2 (by omega)) (fun _ h => by cases h) mw_2_2 dX10_init_38 (fun r1 H locs hKS _ _ hS => ?_)
  refine lv_aload_n hx hb dX10_init_41 rfl (lv_at hl 0 rfl) ?_
  refine lv_bipush (v := 10) hx hb dX10_init_42 (by decide) ?_
  refine k_na (atype := .int) (t := 88) (ki := 1) (a0 := (10, .inl (fun _ => 0))) hx hb hts mw_1_61 rfl (fun C h => by cases h) hK rfl hKS hS hA rfl (fun _ => rfl) (fun j => i0_88 j) (fun _ => rfl) (by decide) rfl (by decide) (Nat.le_of_ble_eq_true rfl) (Nat.le_of_ble_eq_true rfl) dX10_init_44 (fun q_5 L1 T1 r1 σ1 ρ1 H hKS mq_5 tq_5 hS => ?_)
  refine W.widen (k := 23) (n := 235) (Nat.le_of_ble_eq_true rfl) (Nat.le_of_ble_eq_true rfl) ?_
  refine k_pr hx hb hts hown hin hK hKS hS mq_5 tq_5 fq_14_4 rfl rfl rfl rfl (fun i h1 h2 => absurd h2 (by omega)) (fun _ h => by cases h) mw_2_5 dX10_init_46 (fun r1 H locs hKS _ _ hS => ?_)
  refine lv_aload_n hx hb dX10_init_49 rfl (lv_at hl 0 rfl) ?_
  refine lv_bipush (v := 10) hx hb dX10_init_50 (by decide) ?_
  refine k_na (atype := .int) (t := 89) (ki := 1) (a0 := (10, .inl (fun _ => 0))) hx hb hts mw_1_61 rfl (fun C h => by cases h) hK rfl hKS hS hA rfl (fun _ => rfl) (fun j => i0_89 j) (fun _ => rfl) (by decide) rfl (by decide) (Nat.le_of_ble_eq_true rfl) (Nat.le_of_ble_eq_true rfl) dX10_init_52 (fun q_6 L1 T1 r1 σ1 ρ1 H hKS mq_6 tq_6 hS => ?_)
  refine W.widen (k := 24) (n := 245) (Nat.le_of_ble_eq_true rfl) (Nat.le_of_ble_eq_true rfl) ?_
  refine k_pr hx hb hts hown hin hK hKS hS mq_6 tq_6 fq_14_5 rfl rfl rfl rfl (fun i h1 h2 => absurd h2 (by omega)) (fun _ h => by cases h) mw_2_8 dX10_init_54 (fun r1 H locs hKS _ _ hS => ?_)
  refine lv_aload_n hx hb dX10_init_57 rfl (lv_at hl 0 rfl) ?_
  refine lv_iconst (v := (-1)) hx hb dX10_init_58 (by decide) ?_
  refine k_pi hx hb hts hown hK hKS hS fi_14_7 rfl rfl mw_2_14 dX10_init_59 (fun σ1 H locs hKS hS => ?_)
  exact W.vret hx hb hr (fun t ht hW => ⟨⟨(), rfl, trivial, hKS.end hn_14 hf_14 ht⟩, hS.F ht⟩) hS.2.2 dX10_init_62
theorem hn_15 : ∀ k t : Nat, fT 15 k = some t → k < 6 := fun k t h => match k, h with | 0, h => by decide | 1, h => by decide | 2, h => by decide | 3, h => by decide | 4, h => by decide | 5, h => by decide | 6, h => nomatch h | 7, h => nomatch h | 8, h => nomatch h | k + 9, h => nomatch h
theorem hf_15 : ∀ j : Nat, va_up (fun _ => (0 : Int32)) 7 (-1) j = ini 15 j := fun j => by unfold ini va_up; by_cases hj : j = 7 <;> simp [hj]
set_option maxHeartbeats 4000000 in
set_option maxRecDepth 100000 in
theorem kk_X10_init_15 (l : Launch) (D : va_G) (cA : Nat → ClassId) (L : List Nat) (T : Nat → Nat) (r : Rg) (σ : Sg) (ρ : Lg) (hL : L.Nodup) (sz : Nat) (h0 : Nat) (mh0 : h0 ∈ L) (th0 : T h0 = 15) (z0 : ∀ j, σ h0 j = 0) : Met l yX10_init (.code yX10_init cX10_init 1 none :: wsA) ({ frames := 3, cells := 24, slots := 245, locals := 80 }) (PR D cA L T r σ ρ sz [.ref h0]) (va_Qv (fun _ : Unit => True) (fun _ t => KQ D cA L T r σ h0 sz t) (dm L sz)) 24 245 (dm L sz) := by
  refine Met.ofW (cc := cX10_init) (maxL := 1) (ret := none) (by decide) rfl ?_
  intro p e s m args below meth c s₁ B hml hv
  obtain ⟨rfl, hsz, hP, hK, hN⟩ := hv
  have hx := B.exec
  have hb := B.bytes
  have hr := B.returns
  have hts : ∀ w ∈ wsA, w.before _ s = true := fun w h => atoms_spec (ws := .code yX10_init cX10_init 1 none :: wsA) B.pre w (List.mem_cons_of_mem _ h)
  have hown : s.vm.findClass RX10 = some m.cls := findClass_of_methodNamed B.named
  have hin : meth.name = "<init>" := (name_of_methodNamed B.named B.method).1
  subst hsz
  have hKS := KS.begin (sz := s.heap.size) hP ⟨hL, fun a h => Or.inl h⟩ mh0 th0 z0
  have hA : ∀ q : Nat, s.heap.size ≤ q → dm L s.heap.size q := fun q h => Or.inr h
  have hS : va_S (dm L s.heap.size) s.heap s.heap [] := va_S.rf
  have hl := lv_entry ([.ref h0]) (n := 1) (Nat.le_of_ble_eq_true rfl)
  rw [lg_entry_eq]
  generalize (lg_sl ([.ref h0]) ++ List.replicate (1 - (lg_sl ([.ref h0])).length) Slot.unset).toArray = ls at hl ⊢
  have hl : lv_has ls 1 [(0, .ref h0)] := hl
  refine lv_aload_n hx hb dX10_init_0 rfl (lv_at hl 0 rfl) ?_
  refine W.objInit hx hb hown (hts _ mw_1_228) (hts _ mw_1_28) (hts _ mw_1_29) rfl (by rw [hml]; exact hl.1) rfl dX10_init_1 (Nat.le_of_ble_eq_true rfl) (Nat.le_of_ble_eq_true rfl) ?_
  refine W.eq (g2 := F0 m 4 ls []) rfl ?_
  refine lv_aload_n hx hb dX10_init_4 rfl (lv_at hl 0 rfl) ?_
  refine k_no (t := 18) (ci := 3) (TT := TX3) hx hb hts lay3 tyX3_ok hown mw_1_229 mw_1_69 mw_1_4 hK hKS hS hA rfl rfl (fun j hj => by rcases (show j = 0 ∨ j = 1 ∨ j = 2 ∨ j = 3 ∨ j = 4 ∨ j = 5 ∨ j = 6 ∨ j = 7 ∨ j = 8 ∨ j = 9 ∨ j = 10 by omega) with rfl | rfl | rfl | rfl | rfl | rfl | rfl | rfl | rfl | rfl | rfl <;> rfl) (Nat.le_of_ble_eq_true rfl) (Nat.le_of_ble_eq_true rfl) dX10_init_5 (fun q_1 L1 T1 r1 σ1 ρ1 H hKS mq_1 tq_1 zq_1 nq_1 pq_1 hS => ?_)
  refine W.widen (k := 1) (n := 11) (Nat.le_of_ble_eq_true rfl) (Nat.le_of_ble_eq_true rfl) ?_
  refine lv_dup hx hb dX10_init_8 rfl ?_
  refine k_ci (va_runIN (As := []) (rest := [.ref q_1, .ref h0]) ⟨hx, hb, hml, hown, hts⟩ (kk_X3_init_18 l D cA _ _ _ _ _ hKS.2.1.1 _ q_1 mq_1 tq_1 zq_1) (cIN hts mi_X3_init hN (show (RX10, 11, yX3_init, RX11) ∈ nwL by decide +kernel) rfl rfl ⟨Nat.le_of_ble_eq_true rfl, Nat.le_of_ble_eq_true rfl⟩) (pS hKS.1 hK hN) rfl rfl hl.1 rfl (lv_room (Nat.le_of_ble_eq_true rfl)) dX10_init_9 ⟨Nat.le_of_ble_eq_true rfl, Nat.le_of_ble_eq_true rfl⟩) hKS mq_1 nq_1 pq_1 hA hS tq_1 (fun L1 T1 r1 σ1 ρ1 H locs hKS mq_1 tq_1 hS => ?_)
  refine W.widen (k := 13) (n := 126) (Nat.le_of_ble_eq_true rfl) (Nat.le_of_ble_eq_true rfl) ?_
  refine k_pr hx hb hts hown hin hK hKS hS mq_1 tq_1 fq_15_0 rfl rfl rfl rfl (fun i h1 h2 => absurd h2 (by omega)) (fun _ h => by cases h) mw_1_233 dX10_init_12 (fun r1 H locs hKS _ _ hS => ?_)
  refine lv_aload_n hx hb dX10_init_15 rfl (lv_at hl 0 rfl) ?_
  refine k_no (t := 105) (ci := 8) (TT := TX8) hx hb hts lay8 tyX8_ok hown mw_1_231 mw_1_75 mw_1_5 hK hKS hS hA rfl rfl (fun j hj => by rcases (show j = 0 ∨ j = 1 ∨ j = 2 ∨ j = 3 ∨ j = 4 ∨ j = 5 ∨ j = 6 ∨ j = 7 by omega) with rfl | rfl | rfl | rfl | rfl | rfl | rfl | rfl <;> rfl) (Nat.le_of_ble_eq_true rfl) (Nat.le_of_ble_eq_true rfl) dX10_init_16 (fun q_2 L1 T1 r1 σ1 ρ1 H hKS mq_2 tq_2 zq_2 nq_2 pq_2 hS => ?_)
  refine W.widen (k := 14) (n := 134) (Nat.le_of_ble_eq_true rfl) (Nat.le_of_ble_eq_true rfl) ?_
  refine lv_dup hx hb dX10_init_19 rfl ?_
  refine k_ci (va_runIN (As := []) (rest := [.ref q_2, .ref h0]) ⟨hx, hb, hml, hown, hts⟩ (kk_X8_init_105 l D cA _ _ _ _ _ hKS.2.1.1 _ q_2 mq_2 tq_2 zq_2) (cIN hts mi_X8_init hN (show (RX10, 20, yX8_init, RX11) ∈ nwL by decide +kernel) rfl rfl ⟨Nat.le_of_ble_eq_true rfl, Nat.le_of_ble_eq_true rfl⟩) (pS hKS.1 hK hN) rfl rfl hl.1 rfl (lv_room (Nat.le_of_ble_eq_true rfl)) dX10_init_20 ⟨Nat.le_of_ble_eq_true rfl, Nat.le_of_ble_eq_true rfl⟩) hKS mq_2 nq_2 pq_2 hA hS tq_2 (fun L1 T1 r1 σ1 ρ1 H locs hKS mq_2 tq_2 hS => ?_)
  refine W.widen (k := 20) (n := 210) (Nat.le_of_ble_eq_true rfl) (Nat.le_of_ble_eq_true rfl) ?_
  refine k_pr hx hb hts hown hin hK hKS hS mq_2 tq_2 fq_15_1 rfl rfl rfl rfl (fun i h1 h2 => absurd h2 (by omega)) (fun _ h => by cases h) mw_1_237 dX10_init_23 (fun r1 H locs hKS _ _ hS => ?_)
  refine lv_aload_n hx hb dX10_init_26 rfl (lv_at hl 0 rfl) ?_
  refine lv_iconst (v := 5) hx hb dX10_init_27 (by decide) ?_
  refine k_na (atype := .int) (t := 86) (ki := 1) (a0 := (5, .inl (fun _ => 0))) hx hb hts mw_1_61 rfl (fun C h => by cases h) hK rfl hKS hS hA rfl (fun _ => rfl) (fun j => i0_86 j) (fun _ => rfl) (by decide) rfl (by decide) (Nat.le_of_ble_eq_true rfl) (Nat.le_of_ble_eq_true rfl) dX10_init_28 (fun q_3 L1 T1 r1 σ1 ρ1 H hKS mq_3 tq_3 hS => ?_)
  refine W.widen (k := 21) (n := 215) (Nat.le_of_ble_eq_true rfl) (Nat.le_of_ble_eq_true rfl) ?_
  refine k_pr hx hb hts hown hin hK hKS hS mq_3 tq_3 fq_15_2 rfl rfl rfl rfl (fun i h1 h2 => absurd h2 (by omega)) (fun _ h => by cases h) mw_2_0 dX10_init_30 (fun r1 H locs hKS _ _ hS => ?_)
  refine lv_aload_n hx hb dX10_init_33 rfl (lv_at hl 0 rfl) ?_
  refine lv_bipush (v := 10) hx hb dX10_init_34 (by decide) ?_
  refine k_na (atype := .int) (t := 87) (ki := 1) (a0 := (10, .inl (fun _ => 0))) hx hb hts mw_1_61 rfl (fun C h => by cases h) hK rfl hKS hS hA rfl (fun _ => rfl) (fun j => i0_87 j) (fun _ => rfl) (by decide) rfl (by decide) (Nat.le_of_ble_eq_true rfl) (Nat.le_of_ble_eq_true rfl) dX10_init_36 (fun q_4 L1 T1 r1 σ1 ρ1 H hKS mq_4 tq_4 hS => ?_)
  refine W.widen (k := 22) (n := 225) (Nat.le_of_ble_eq_true rfl) (Nat.le_of_ble_eq_true rfl) ?_
  refine k_pr hx hb hts hown hin hK hKS hS mq_4 tq_4 fq_15_3 rfl rfl rfl rfl (fun i h1 h2 => absurd h2 (by omega)) (fun _ h => by cases h) mw_2_2 dX10_init_38 (fun r1 H locs hKS _ _ hS => ?_)
  refine lv_aload_n hx hb dX10_init_41 rfl (lv_at hl 0 rfl) ?_
  refine lv_bipush (v := 10) hx hb dX10_init_42 (by decide) ?_
  refine k_na (atype := .int) (t := 88) (ki := 1) (a0 := (10, .inl (fun _ => 0))) hx hb hts mw_1_61 rfl (fun C h => by cases h) hK rfl hKS hS hA rfl (fun _ => rfl) (fun j => i0_88 j) (fun _ => rfl) (by decide) rfl (by decide) (Nat.le_of_ble_eq_true rfl) (Nat.le_of_ble_eq_true rfl) dX10_init_44 (fun q_5 L1 T1 r1 σ1 ρ1 H hKS mq_5 tq_5 hS => ?_)
  refine W.widen (k := 23) (n := 235) (Nat.le_of_ble_eq_true rfl) (Nat.le_of_ble_eq_true rfl) ?_
  refine k_pr hx hb hts hown hin hK hKS hS mq_5 tq_5 fq_15_4 rfl rfl rfl rfl (fun i h1 h2 => absurd h2 (by omega)) (fun _ h => by cases h) mw_2_5 dX10_init_46 (fun r1 H locs hKS _ _ hS => ?_)
  refine lv_aload_n hx hb dX10_init_49 rfl (lv_at hl 0 rfl) ?_
  refine lv_bipush (v := 10) hx hb dX10_init_50 (by decide) ?_
  refine k_na (atype := .int) (t := 89) (ki := 1) (a0 := (10, .inl (fun _ => 0))) hx hb hts mw_1_61 rfl (fun C h => by cases h) hK rfl hKS hS hA rfl (fun _ => rfl) (fun j => i0_89 j) (fun _ => rfl) (by decide) rfl (by decide) (Nat.le_of_ble_eq_true rfl) (Nat.le_of_ble_eq_true rfl) dX10_init_52 (fun q_6 L1 T1 r1 σ1 ρ1 H hKS mq_6 tq_6 hS => ?_)
  refine W.widen (k := 24) (n := 245) (Nat.le_of_ble_eq_true rfl) (Nat.le_of_ble_eq_true rfl) ?_
  refine k_pr hx hb hts hown hin hK hKS hS mq_6 tq_6 fq_15_5 rfl rfl rfl rfl (fun i h1 h2 => absurd h2 (by omega)) (fun _ h => by cases h) mw_2_8 dX10_init_54 (fun r1 H locs hKS _ _ hS => ?_)
  refine lv_aload_n hx hb dX10_init_57 rfl (lv_at hl 0 rfl) ?_
  refine lv_iconst (v := (-1)) hx hb dX10_init_58 (by decide) ?_
  refine k_pi hx hb hts hown hK hKS hS fi_15_7 rfl rfl mw_2_14 dX10_init_59 (fun σ1 H locs hKS hS => ?_)
  exact W.vret hx hb hr (fun t ht hW => ⟨⟨(), rfl, trivial, hKS.end hn_15 hf_15 ht⟩, hS.F ht⟩) hS.2.2 dX10_init_62
theorem hn_16 : ∀ k t : Nat, fT 16 k = some t → k < 6 := fun k t h => match k, h with | 0, h => by decide | 1, h => by decide | 2, h => by decide | 3, h => by decide | 4, h => by decide | 5, h => by decide | 6, h => nomatch h | 7, h => nomatch h | 8, h => nomatch h | k + 9, h => nomatch h
theorem hf_16 : ∀ j : Nat, va_up (fun _ => (0 : Int32)) 7 (-1) j = ini 16 j := fun j => by unfold ini va_up; by_cases hj : j = 7 <;> simp [hj]
set_option maxHeartbeats 4000000 in
set_option maxRecDepth 100000 in
theorem kk_X10_init_16 (l : Launch) (D : va_G) (cA : Nat → ClassId) (L : List Nat) (T : Nat → Nat) (r : Rg) (σ : Sg) (ρ : Lg) (hL : L.Nodup) (sz : Nat) (h0 : Nat) (mh0 : h0 ∈ L) (th0 : T h0 = 16) (z0 : ∀ j, σ h0 j = 0) : Met l yX10_init (.code yX10_init cX10_init 1 none :: wsA) ({ frames := 3, cells := 24, slots := 245, locals := 80 }) (PR D cA L T r σ ρ sz [.ref h0]) (va_Qv (fun _ : Unit => True) (fun _ t => KQ D cA L T r σ h0 sz t) (dm L sz)) 24 245 (dm L sz) := by
  refine Met.ofW (cc := cX10_init) (maxL := 1) (ret := none) (by decide) rfl ?_
  intro p e s m args below meth c s₁ B hml hv
  obtain ⟨rfl, hsz, hP, hK, hN⟩ := hv
  have hx := B.exec
  have hb := B.bytes
  have hr := B.returns
  have hts : ∀ w ∈ wsA, w.before _ s = true := fun w h => atoms_spec (ws := .code yX10_init cX10_init 1 none :: wsA) B.pre w (List.mem_cons_of_mem _ h)
  have hown : s.vm.findClass RX10 = some m.cls := findClass_of_methodNamed B.named
  have hin : meth.name = "<init>" := (name_of_methodNamed B.named B.method).1
  subst hsz
  have hKS := KS.begin (sz := s.heap.size) hP ⟨hL, fun a h => Or.inl h⟩ mh0 th0 z0
  have hA : ∀ q : Nat, s.heap.size ≤ q → dm L s.heap.size q := fun q h => Or.inr h
  have hS : va_S (dm L s.heap.size) s.heap s.heap [] := va_S.rf
  have hl := lv_entry ([.ref h0]) (n := 1) (Nat.le_of_ble_eq_true rfl)
  rw [lg_entry_eq]
  generalize (lg_sl ([.ref h0]) ++ List.replicate (1 - (lg_sl ([.ref h0])).length) Slot.unset).toArray = ls at hl ⊢
  have hl : lv_has ls 1 [(0, .ref h0)] := hl
  refine lv_aload_n hx hb dX10_init_0 rfl (lv_at hl 0 rfl) ?_
  refine W.objInit hx hb hown (hts _ mw_1_228) (hts _ mw_1_28) (hts _ mw_1_29) rfl (by rw [hml]; exact hl.1) rfl dX10_init_1 (Nat.le_of_ble_eq_true rfl) (Nat.le_of_ble_eq_true rfl) ?_
  refine W.eq (g2 := F0 m 4 ls []) rfl ?_
  refine lv_aload_n hx hb dX10_init_4 rfl (lv_at hl 0 rfl) ?_
  refine k_no (t := 18) (ci := 3) (TT := TX3) hx hb hts lay3 tyX3_ok hown mw_1_229 mw_1_69 mw_1_4 hK hKS hS hA rfl rfl (fun j hj => by rcases (show j = 0 ∨ j = 1 ∨ j = 2 ∨ j = 3 ∨ j = 4 ∨ j = 5 ∨ j = 6 ∨ j = 7 ∨ j = 8 ∨ j = 9 ∨ j = 10 by omega) with rfl | rfl | rfl | rfl | rfl | rfl | rfl | rfl | rfl | rfl | rfl <;> rfl) (Nat.le_of_ble_eq_true rfl) (Nat.le_of_ble_eq_true rfl) dX10_init_5 (fun q_1 L1 T1 r1 σ1 ρ1 H hKS mq_1 tq_1 zq_1 nq_1 pq_1 hS => ?_)
  refine W.widen (k := 1) (n := 11) (Nat.le_of_ble_eq_true rfl) (Nat.le_of_ble_eq_true rfl) ?_
  refine lv_dup hx hb dX10_init_8 rfl ?_
  refine k_ci (va_runIN (As := []) (rest := [.ref q_1, .ref h0]) ⟨hx, hb, hml, hown, hts⟩ (kk_X3_init_18 l D cA _ _ _ _ _ hKS.2.1.1 _ q_1 mq_1 tq_1 zq_1) (cIN hts mi_X3_init hN (show (RX10, 11, yX3_init, RX11) ∈ nwL by decide +kernel) rfl rfl ⟨Nat.le_of_ble_eq_true rfl, Nat.le_of_ble_eq_true rfl⟩) (pS hKS.1 hK hN) rfl rfl hl.1 rfl (lv_room (Nat.le_of_ble_eq_true rfl)) dX10_init_9 ⟨Nat.le_of_ble_eq_true rfl, Nat.le_of_ble_eq_true rfl⟩) hKS mq_1 nq_1 pq_1 hA hS tq_1 (fun L1 T1 r1 σ1 ρ1 H locs hKS mq_1 tq_1 hS => ?_)
  refine W.widen (k := 13) (n := 126) (Nat.le_of_ble_eq_true rfl) (Nat.le_of_ble_eq_true rfl) ?_
  refine k_pr hx hb hts hown hin hK hKS hS mq_1 tq_1 fq_16_0 rfl rfl rfl rfl (fun i h1 h2 => absurd h2 (by omega)) (fun _ h => by cases h) mw_1_233 dX10_init_12 (fun r1 H locs hKS _ _ hS => ?_)
  refine lv_aload_n hx hb dX10_init_15 rfl (lv_at hl 0 rfl) ?_
  refine k_no (t := 105) (ci := 8) (TT := TX8) hx hb hts lay8 tyX8_ok hown mw_1_231 mw_1_75 mw_1_5 hK hKS hS hA rfl rfl (fun j hj => by rcases (show j = 0 ∨ j = 1 ∨ j = 2 ∨ j = 3 ∨ j = 4 ∨ j = 5 ∨ j = 6 ∨ j = 7 by omega) with rfl | rfl | rfl | rfl | rfl | rfl | rfl | rfl <;> rfl) (Nat.le_of_ble_eq_true rfl) (Nat.le_of_ble_eq_true rfl) dX10_init_16 (fun q_2 L1 T1 r1 σ1 ρ1 H hKS mq_2 tq_2 zq_2 nq_2 pq_2 hS => ?_)
  refine W.widen (k := 14) (n := 134) (Nat.le_of_ble_eq_true rfl) (Nat.le_of_ble_eq_true rfl) ?_
  refine lv_dup hx hb dX10_init_19 rfl ?_
  refine k_ci (va_runIN (As := []) (rest := [.ref q_2, .ref h0]) ⟨hx, hb, hml, hown, hts⟩ (kk_X8_init_105 l D cA _ _ _ _ _ hKS.2.1.1 _ q_2 mq_2 tq_2 zq_2) (cIN hts mi_X8_init hN (show (RX10, 20, yX8_init, RX11) ∈ nwL by decide +kernel) rfl rfl ⟨Nat.le_of_ble_eq_true rfl, Nat.le_of_ble_eq_true rfl⟩) (pS hKS.1 hK hN) rfl rfl hl.1 rfl (lv_room (Nat.le_of_ble_eq_true rfl)) dX10_init_20 ⟨Nat.le_of_ble_eq_true rfl, Nat.le_of_ble_eq_true rfl⟩) hKS mq_2 nq_2 pq_2 hA hS tq_2 (fun L1 T1 r1 σ1 ρ1 H locs hKS mq_2 tq_2 hS => ?_)
  refine W.widen (k := 20) (n := 210) (Nat.le_of_ble_eq_true rfl) (Nat.le_of_ble_eq_true rfl) ?_
  refine k_pr hx hb hts hown hin hK hKS hS mq_2 tq_2 fq_16_1 rfl rfl rfl rfl (fun i h1 h2 => absurd h2 (by omega)) (fun _ h => by cases h) mw_1_237 dX10_init_23 (fun r1 H locs hKS _ _ hS => ?_)
  refine lv_aload_n hx hb dX10_init_26 rfl (lv_at hl 0 rfl) ?_
  refine lv_iconst (v := 5) hx hb dX10_init_27 (by decide) ?_
  refine k_na (atype := .int) (t := 86) (ki := 1) (a0 := (5, .inl (fun _ => 0))) hx hb hts mw_1_61 rfl (fun C h => by cases h) hK rfl hKS hS hA rfl (fun _ => rfl) (fun j => i0_86 j) (fun _ => rfl) (by decide) rfl (by decide) (Nat.le_of_ble_eq_true rfl) (Nat.le_of_ble_eq_true rfl) dX10_init_28 (fun q_3 L1 T1 r1 σ1 ρ1 H hKS mq_3 tq_3 hS => ?_)
  refine W.widen (k := 21) (n := 215) (Nat.le_of_ble_eq_true rfl) (Nat.le_of_ble_eq_true rfl) ?_
  refine k_pr hx hb hts hown hin hK hKS hS mq_3 tq_3 fq_16_2 rfl rfl rfl rfl (fun i h1 h2 => absurd h2 (by omega)) (fun _ h => by cases h) mw_2_0 dX10_init_30 (fun r1 H locs hKS _ _ hS => ?_)
  refine lv_aload_n hx hb dX10_init_33 rfl (lv_at hl 0 rfl) ?_
  refine lv_bipush (v := 10) hx hb dX10_init_34 (by decide) ?_
  refine k_na (atype := .int) (t := 87) (ki := 1) (a0 := (10, .inl (fun _ => 0))) hx hb hts mw_1_61 rfl (fun C h => by cases h) hK rfl hKS hS hA rfl (fun _ => rfl) (fun j => i0_87 j) (fun _ => rfl) (by decide) rfl (by decide) (Nat.le_of_ble_eq_true rfl) (Nat.le_of_ble_eq_true rfl) dX10_init_36 (fun q_4 L1 T1 r1 σ1 ρ1 H hKS mq_4 tq_4 hS => ?_)
  refine W.widen (k := 22) (n := 225) (Nat.le_of_ble_eq_true rfl) (Nat.le_of_ble_eq_true rfl) ?_
  refine k_pr hx hb hts hown hin hK hKS hS mq_4 tq_4 fq_16_3 rfl rfl rfl rfl (fun i h1 h2 => absurd h2 (by omega)) (fun _ h => by cases h) mw_2_2 dX10_init_38 (fun r1 H locs hKS _ _ hS => ?_)
  refine lv_aload_n hx hb dX10_init_41 rfl (lv_at hl 0 rfl) ?_
  refine lv_bipush (v := 10) hx hb dX10_init_42 (by decide) ?_
  refine k_na (atype := .int) (t := 88) (ki := 1) (a0 := (10, .inl (fun _ => 0))) hx hb hts mw_1_61 rfl (fun C h => by cases h) hK rfl hKS hS hA rfl (fun _ => rfl) (fun j => i0_88 j) (fun _ => rfl) (by decide) rfl (by decide) (Nat.le_of_ble_eq_true rfl) (Nat.le_of_ble_eq_true rfl) dX10_init_44 (fun q_5 L1 T1 r1 σ1 ρ1 H hKS mq_5 tq_5 hS => ?_)
  refine W.widen (k := 23) (n := 235) (Nat.le_of_ble_eq_true rfl) (Nat.le_of_ble_eq_true rfl) ?_
  refine k_pr hx hb hts hown hin hK hKS hS mq_5 tq_5 fq_16_4 rfl rfl rfl rfl (fun i h1 h2 => absurd h2 (by omega)) (fun _ h => by cases h) mw_2_5 dX10_init_46 (fun r1 H locs hKS _ _ hS => ?_)
  refine lv_aload_n hx hb dX10_init_49 rfl (lv_at hl 0 rfl) ?_
  refine lv_bipush (v := 10) hx hb dX10_init_50 (by decide) ?_
  refine k_na (atype := .int) (t := 89) (ki := 1) (a0 := (10, .inl (fun _ => 0))) hx hb hts mw_1_61 rfl (fun C h => by cases h) hK rfl hKS hS hA rfl (fun _ => rfl) (fun j => i0_89 j) (fun _ => rfl) (by decide) rfl (by decide) (Nat.le_of_ble_eq_true rfl) (Nat.le_of_ble_eq_true rfl) dX10_init_52 (fun q_6 L1 T1 r1 σ1 ρ1 H hKS mq_6 tq_6 hS => ?_)
  refine W.widen (k := 24) (n := 245) (Nat.le_of_ble_eq_true rfl) (Nat.le_of_ble_eq_true rfl) ?_
  refine k_pr hx hb hts hown hin hK hKS hS mq_6 tq_6 fq_16_5 rfl rfl rfl rfl (fun i h1 h2 => absurd h2 (by omega)) (fun _ h => by cases h) mw_2_8 dX10_init_54 (fun r1 H locs hKS _ _ hS => ?_)
  refine lv_aload_n hx hb dX10_init_57 rfl (lv_at hl 0 rfl) ?_
  refine lv_iconst (v := (-1)) hx hb dX10_init_58 (by decide) ?_
  refine k_pi hx hb hts hown hK hKS hS fi_16_7 rfl rfl mw_2_14 dX10_init_59 (fun σ1 H locs hKS hS => ?_)
  exact W.vret hx hb hr (fun t ht hW => ⟨⟨(), rfl, trivial, hKS.end hn_16 hf_16 ht⟩, hS.F ht⟩) hS.2.2 dX10_init_62
theorem mw_1_35 : (.methodLink RX9 3 objectInit : Cond) ∈ wsA := wsA_t (List.mem_append_left _ (List.mem_of_getElem? (l := tables_1_1) (i := 35) rfl)) rfl
theorem dX9_init_0 : decode cX9_init 0 = .ok (.aload_n 0, 1) := by decide +kernel
theorem dX9_init_1 : decode cX9_init 1 = .ok (.invokespecial 3, 3) := by decide +kernel
theorem dX9_init_4 : decode cX9_init 4 = .ok (.aload_n 0, 1) := by decide +kernel
theorem dX9_init_5 : decode cX9_init 5 = .ok (.sipush 400, 3) := by decide +kernel
theorem dX9_init_8 : decode cX9_init 8 = .ok (.newarray .int, 2) := by decide +kernel
theorem dX9_init_10 : decode cX9_init 10 = .ok (.putfield 11, 3) := by decide +kernel
theorem dX9_init_13 : decode cX9_init 13 = .ok (.aload_n 0, 1) := by decide +kernel
theorem dX9_init_14 : decode cX9_init 14 = .ok (.sipush 401, 3) := by decide +kernel
theorem dX9_init_17 : decode cX9_init 17 = .ok (.newarray .int, 2) := by decide +kernel
theorem dX9_init_19 : decode cX9_init 19 = .ok (.putfield 15, 3) := by decide +kernel
theorem dX9_init_22 : decode cX9_init 22 = .ok (.aload_n 0, 1) := by decide +kernel
theorem dX9_init_23 : decode cX9_init 23 = .ok (.sipush 401, 3) := by decide +kernel
theorem dX9_init_26 : decode cX9_init 26 = .ok (.newarray .int, 2) := by decide +kernel
theorem dX9_init_28 : decode cX9_init 28 = .ok (.putfield 18, 3) := by decide +kernel
theorem dX9_init_31 : decode cX9_init 31 = .ok (.aload_n 0, 1) := by decide +kernel
theorem dX9_init_32 : decode cX9_init 32 = .ok (.sipush 401, 3) := by decide +kernel
theorem dX9_init_35 : decode cX9_init 35 = .ok (.newarray .int, 2) := by decide +kernel
theorem dX9_init_37 : decode cX9_init 37 = .ok (.putfield 21, 3) := by decide +kernel
theorem dX9_init_40 : decode cX9_init 40 = .ok (.return_, 1) := by decide +kernel
theorem hn_9 : ∀ k t : Nat, fT 9 k = some t → k < 4 := fun k t h => match k, h with | 0, h => by decide | 1, h => by decide | 2, h => by decide | 3, h => by decide | 4, h => nomatch h | 5, h => nomatch h | 6, h => nomatch h | k + 7, h => nomatch h
theorem hf_9 : ∀ j : Nat, (fun _ => (0 : Int32)) j = ini 9 j := fun j => by unfold ini; rw [if_neg (fun h => absurd h.1 (by decide)), if_neg (fun h => absurd h.1 (by decide))]
set_option maxHeartbeats 4000000 in
set_option maxRecDepth 100000 in
theorem kk_X9_init_9 (l : Launch) (D : va_G) (cA : Nat → ClassId) (L : List Nat) (T : Nat → Nat) (r : Rg) (σ : Sg) (ρ : Lg) (hL : L.Nodup) (sz : Nat) (h0 : Nat) (mh0 : h0 ∈ L) (th0 : T h0 = 9) (z0 : ∀ j, σ h0 j = 0) : Met l yX9_init (.code yX9_init cX9_init 1 none :: wsA) ({ frames := 1, cells := 4, slots := 1603, locals := 40 }) (PR D cA L T r σ ρ sz [.ref h0]) (va_Qv (fun _ : Unit => True) (fun _ t => KQ D cA L T r σ h0 sz t) (dm L sz)) 4 1603 (dm L sz) := by
  refine Met.ofW (cc := cX9_init) (maxL := 1) (ret := none) (by decide) rfl ?_
  intro p e s m args below meth c s₁ B hml hv
  obtain ⟨rfl, hsz, hP, hK, hN⟩ := hv
  have hx := B.exec
  have hb := B.bytes
  have hr := B.returns
  have hts : ∀ w ∈ wsA, w.before _ s = true := fun w h => atoms_spec (ws := .code yX9_init cX9_init 1 none :: wsA) B.pre w (List.mem_cons_of_mem _ h)
  have hown : s.vm.findClass RX9 = some m.cls := findClass_of_methodNamed B.named
  have hin : meth.name = "<init>" := (name_of_methodNamed B.named B.method).1
  subst hsz
  have hKS := KS.begin (sz := s.heap.size) hP ⟨hL, fun a h => Or.inl h⟩ mh0 th0 z0
  have hA : ∀ q : Nat, s.heap.size ≤ q → dm L s.heap.size q := fun q h => Or.inr h
  have hS : va_S (dm L s.heap.size) s.heap s.heap [] := va_S.rf
  have hl := lv_entry ([.ref h0]) (n := 1) (Nat.le_of_ble_eq_true rfl)
  rw [lg_entry_eq]
  generalize (lg_sl ([.ref h0]) ++ List.replicate (1 - (lg_sl ([.ref h0])).length) Slot.unset).toArray = ls at hl ⊢
  have hl : lv_has ls 1 [(0, .ref h0)] := hl
  refine lv_aload_n hx hb dX9_init_0 rfl (lv_at hl 0 rfl) ?_
  refine W.objInit hx hb hown (hts _ mw_1_35) (hts _ mw_1_28) (hts _ mw_1_29) rfl (by rw [hml]; exact hl.1) rfl dX9_init_1 (Nat.le_of_ble_eq_true rfl) (Nat.le_of_ble_eq_true rfl) ?_
  refine W.eq (g2 := F0 m 4 ls []) rfl ?_
  refine lv_aload_n hx hb dX9_init_4 rfl (lv_at hl 0 rfl) ?_
  refine lv_sipush (v := 400) hx hb dX9_init_5 (by decide) ?_
  refine k_na (atype := .int) (t := 51) (ki := 1) (a0 := (400, .inl (fun _ => 0))) hx hb hts mw_1_61 rfl (fun C h => by cases h) hK rfl hKS hS hA rfl (fun _ => rfl) (fun j => i0_51 j) (fun _ => rfl) (by decide) rfl (by decide) (Nat.le_of_ble_eq_true rfl) (Nat.le_of_ble_eq_true rfl) dX9_init_8 (fun q_1 L1 T1 r1 σ1 ρ1 H hKS mq_1 tq_1 hS => ?_)
  refine W.widen (k := 1) (n := 400) (Nat.le_of_ble_eq_true rfl) (Nat.le_of_ble_eq_true rfl) ?_
  refine k_pr hx hb hts hown hin hK hKS hS mq_1 tq_1 fq_9_0 rfl rfl rfl rfl (fun i h1 h2 => absurd h2 (by omega)) (fun _ h => by cases h) mw_1_36 dX9_init_10 (fun r1 H locs hKS _ _ hS => ?_)
  refine lv_aload_n hx hb dX9_init_13 rfl (lv_at hl 0 rfl) ?_
  refine lv_sipush (v := 401) hx hb dX9_init_14 (by decide) ?_
  refine k_na (atype := .int) (t := 52) (ki := 1) (a0 := (401, .inl (fun _ => 0))) hx hb hts mw_1_61 rfl (fun C h => by cases h) hK rfl hKS hS hA rfl (fun _ => rfl) (fun j => i0_52 j) (fun _ => rfl) (by decide) rfl (by decide) (Nat.le_of_ble_eq_true rfl) (Nat.le_of_ble_eq_true rfl) dX9_init_17 (fun q_2 L1 T1 r1 σ1 ρ1 H hKS mq_2 tq_2 hS => ?_)
  refine W.widen (k := 2) (n := 801) (Nat.le_of_ble_eq_true rfl) (Nat.le_of_ble_eq_true rfl) ?_
  refine k_pr hx hb hts hown hin hK hKS hS mq_2 tq_2 fq_9_1 rfl rfl rfl rfl (fun i h1 h2 => absurd h2 (by omega)) (fun _ h => by cases h) mw_1_37 dX9_init_19 (fun r1 H locs hKS _ _ hS => ?_)
  refine lv_aload_n hx hb dX9_init_22 rfl (lv_at hl 0 rfl) ?_
  refine lv_sipush (v := 401) hx hb dX9_init_23 (by decide) ?_
  refine k_na (atype := .int) (t := 53) (ki := 1) (a0 := (401, .inl (fun _ => 0))) hx hb hts mw_1_61 rfl (fun C h => by cases h) hK rfl hKS hS hA rfl (fun _ => rfl) (fun j => i0_53 j) (fun _ => rfl) (by decide) rfl (by decide) (Nat.le_of_ble_eq_true rfl) (Nat.le_of_ble_eq_true rfl) dX9_init_26 (fun q_3 L1 T1 r1 σ1 ρ1 H hKS mq_3 tq_3 hS => ?_)
  refine W.widen (k := 3) (n := 1202) (Nat.le_of_ble_eq_true rfl) (Nat.le_of_ble_eq_true rfl) ?_
  refine k_pr hx hb hts hown hin hK hKS hS mq_3 tq_3 fq_9_2 rfl rfl rfl rfl (fun i h1 h2 => absurd h2 (by omega)) (fun _ h => by cases h) mw_1_38 dX9_init_28 (fun r1 H locs hKS _ _ hS => ?_)
  refine lv_aload_n hx hb dX9_init_31 rfl (lv_at hl 0 rfl) ?_
  refine lv_sipush (v := 401) hx hb dX9_init_32 (by decide) ?_
  refine k_na (atype := .int) (t := 54) (ki := 1) (a0 := (401, .inl (fun _ => 0))) hx hb hts mw_1_61 rfl (fun C h => by cases h) hK rfl hKS hS hA rfl (fun _ => rfl) (fun j => i0_54 j) (fun _ => rfl) (by decide) rfl (by decide) (Nat.le_of_ble_eq_true rfl) (Nat.le_of_ble_eq_true rfl) dX9_init_35 (fun q_4 L1 T1 r1 σ1 ρ1 H hKS mq_4 tq_4 hS => ?_)
  refine W.widen (k := 4) (n := 1603) (Nat.le_of_ble_eq_true rfl) (Nat.le_of_ble_eq_true rfl) ?_
  refine k_pr hx hb hts hown hin hK hKS hS mq_4 tq_4 fq_9_3 rfl rfl rfl rfl (fun i h1 h2 => absurd h2 (by omega)) (fun _ h => by cases h) mw_1_39 dX9_init_37 (fun r1 H locs hKS _ _ hS => ?_)
  exact W.vret hx hb hr (fun t ht hW => ⟨⟨(), rfl, trivial, hKS.end hn_9 hf_9 ht⟩, hS.F ht⟩) hS.2.2 dX9_init_40
theorem mw_1_67 : (.methodLink RX4 3 objectInit : Cond) ∈ wsA := wsA_t (List.mem_append_left _ (List.mem_of_getElem? (l := tables_1_1) (i := 67) rfl)) rfl
theorem mw_1_68 : (.classLink RX4 9 RX3 : Cond) ∈ wsA := wsA_t (List.mem_append_left _ (List.mem_of_getElem? (l := tables_1_1) (i := 68) rfl)) rfl
theorem dX4_init_0 : decode cX4_init 0 = .ok (.aload_n 0, 1) := by decide +kernel
theorem dX4_init_1 : decode cX4_init 1 = .ok (.invokespecial 3, 3) := by decide +kernel
theorem dX4_init_4 : decode cX4_init 4 = .ok (.aload_n 0, 1) := by decide +kernel
theorem dX4_init_5 : decode cX4_init 5 = .ok (.new 9, 3) := by decide +kernel
theorem dX4_init_8 : decode cX4_init 8 = .ok (.dup, 1) := by decide +kernel
theorem dX4_init_9 : decode cX4_init 9 = .ok (.invokespecial 11, 3) := by decide +kernel
theorem dX4_init_12 : decode cX4_init 12 = .ok (.putfield 12, 3) := by decide +kernel
theorem dX4_init_15 : decode cX4_init 15 = .ok (.return_, 1) := by decide +kernel
theorem hn_4 : ∀ k t : Nat, fT 4 k = some t → k < 1 := fun k t h => match k, h with | 0, h => by decide | 1, h => nomatch h | k + 2, h => nomatch h
theorem hf_4 : ∀ j : Nat, (fun _ => (0 : Int32)) j = ini 4 j := fun j => by unfold ini; rw [if_neg (fun h => absurd h.1 (by decide)), if_neg (fun h => absurd h.1 (by decide))]
set_option maxHeartbeats 4000000 in
set_option maxRecDepth 100000 in
theorem kk_X4_init_4 (l : Launch) (D : va_G) (cA : Nat → ClassId) (L : List Nat) (T : Nat → Nat) (r : Rg) (σ : Sg) (ρ : Lg) (hL : L.Nodup) (sz : Nat) (h0 : Nat) (mh0 : h0 ∈ L) (th0 : T h0 = 4) (z0 : ∀ j, σ h0 j = 0) : Met l yX4_init (.code yX4_init cX4_init 1 none :: wsA) ({ frames := 3, cells := 13, slots := 126, locals := 80 }) (PR D cA L T r σ ρ sz [.ref h0]) (va_Qv (fun _ : Unit => True) (fun _ t => KQ D cA L T r σ h0 sz t) (dm L sz)) 13 126 (dm L sz) := by
  refine Met.ofW (cc := cX4_init) (maxL := 1) (ret := none) (by decide) rfl ?_
  intro p e s m args below meth c s₁ B hml hv
  obtain ⟨rfl, hsz, hP, hK, hN⟩ := hv
  have hx := B.exec
  have hb := B.bytes
  have hr := B.returns
  have hts : ∀ w ∈ wsA, w.before _ s = true := fun w h => atoms_spec (ws := .code yX4_init cX4_init 1 none :: wsA) B.pre w (List.mem_cons_of_mem _ h)
  have hown : s.vm.findClass RX4 = some m.cls := findClass_of_methodNamed B.named
  have hin : meth.name = "<init>" := (name_of_methodNamed B.named B.method).1
  subst hsz
  have hKS := KS.begin (sz := s.heap.size) hP ⟨hL, fun a h => Or.inl h⟩ mh0 th0 z0
  have hA : ∀ q : Nat, s.heap.size ≤ q → dm L s.heap.size q := fun q h => Or.inr h
  have hS : va_S (dm L s.heap.size) s.heap s.heap [] := va_S.rf
  have hl := lv_entry ([.ref h0]) (n := 1) (Nat.le_of_ble_eq_true rfl)
  rw [lg_entry_eq]
  generalize (lg_sl ([.ref h0]) ++ List.replicate (1 - (lg_sl ([.ref h0])).length) Slot.unset).toArray = ls at hl ⊢
  have hl : lv_has ls 1 [(0, .ref h0)] := hl
  refine lv_aload_n hx hb dX4_init_0 rfl (lv_at hl 0 rfl) ?_
  refine W.objInit hx hb hown (hts _ mw_1_67) (hts _ mw_1_28) (hts _ mw_1_29) rfl (by rw [hml]; exact hl.1) rfl dX4_init_1 (Nat.le_of_ble_eq_true rfl) (Nat.le_of_ble_eq_true rfl) ?_
  refine W.eq (g2 := F0 m 4 ls []) rfl ?_
  refine lv_aload_n hx hb dX4_init_4 rfl (lv_at hl 0 rfl) ?_
  refine k_no (t := 17) (ci := 3) (TT := TX3) hx hb hts lay3 tyX3_ok hown mw_1_68 mw_1_69 mw_1_4 hK hKS hS hA rfl rfl (fun j hj => by rcases (show j = 0 ∨ j = 1 ∨ j = 2 ∨ j = 3 ∨ j = 4 ∨ j = 5 ∨ j = 6 ∨ j = 7 ∨ j = 8 ∨ j = 9 ∨ j = 10 by omega) with rfl | rfl | rfl | rfl | rfl | rfl | rfl | rfl | rfl | rfl | rfl <;> rfl) (Nat.le_of_ble_eq_true rfl) (Nat.le_of_ble_eq_true rfl) dX4_init_5 (fun q_1 L1 T1 r1 σ1 ρ1 H hKS mq_1 tq_1 zq_1 nq_1 pq_1 hS => ?_)
  refine W.widen (k := 1) (n := 11) (Nat.le_of_ble_eq_true rfl) (Nat.le_of_ble_eq_true rfl) ?_
  refine lv_dup hx hb dX4_init_8 rfl ?_
  refine k_ci (va_runIN (As := []) (rest := [.ref q_1, .ref h0]) ⟨hx, hb, hml, hown, hts⟩ (kk_X3_init_17 l D cA _ _ _ _ _ hKS.2.1.1 _ q_1 mq_1 tq_1 zq_1) (cIN hts mi_X3_init hN (show (RX4, 11, yX3_init, RX11) ∈ nwL by decide +kernel) rfl rfl ⟨Nat.le_of_ble_eq_true rfl, Nat.le_of_ble_eq_true rfl⟩) (pS hKS.1 hK hN) rfl rfl hl.1 rfl (lv_room (Nat.le_of_ble_eq_true rfl)) dX4_init_9 ⟨Nat.le_of_ble_eq_true rfl, Nat.le_of_ble_eq_true rfl⟩) hKS mq_1 nq_1 pq_1 hA hS tq_1 (fun L1 T1 r1 σ1 ρ1 H locs hKS mq_1 tq_1 hS => ?_)
  refine W.widen (k := 13) (n := 126) (Nat.le_of_ble_eq_true rfl) (Nat.le_of_ble_eq_true rfl) ?_
  refine k_pr hx hb hts hown hin hK hKS hS mq_1 tq_1 fq_4_0 rfl rfl rfl rfl (fun i h1 h2 => absurd h2 (by omega)) (fun _ h => by cases h) mw_1_213 dX4_init_12 (fun r1 H locs hKS _ _ hS => ?_)
  exact W.vret hx hb hr (fun t ht hW => ⟨⟨(), rfl, trivial, hKS.end hn_4 hf_4 ht⟩, hS.F ht⟩) hS.2.2 dX4_init_15
theorem mw_2_181 : (.methodLink RX7 3 objectInit : Cond) ∈ wsA := wsA_t (List.mem_append_right _ (List.mem_append_left _ (List.mem_of_getElem? (l := tables_1_2) (i := 181) rfl))) rfl
theorem dX7_init_0 : decode cX7_init 0 = .ok (.aload_n 0, 1) := by decide +kernel
theorem dX7_init_1 : decode cX7_init 1 = .ok (.invokespecial 3, 3) := by decide +kernel
theorem dX7_init_4 : decode cX7_init 4 = .ok (.aload_n 0, 1) := by decide +kernel
theorem dX7_init_5 : decode cX7_init 5 = .ok (.sipush 401, 3) := by decide +kernel
theorem dX7_init_8 : decode cX7_init 8 = .ok (.newarray .int, 2) := by decide +kernel
theorem dX7_init_10 : decode cX7_init 10 = .ok (.putfield 11, 3) := by decide +kernel
theorem dX7_init_13 : decode cX7_init 13 = .ok (.aload_n 0, 1) := by decide +kernel
theorem dX7_init_14 : decode cX7_init 14 = .ok (.bipush 12, 2) := by decide +kernel
theorem dX7_init_16 : decode cX7_init 16 = .ok (.newarray .int, 2) := by decide +kernel
theorem dX7_init_18 : decode cX7_init 18 = .ok (.putfield 17, 3) := by decide +kernel
theorem dX7_init_21 : decode cX7_init 21 = .ok (.aload_n 0, 1) := by decide +kernel
theorem dX7_init_22 : decode cX7_init 22 = .ok (.bipush 12, 2) := by decide +kernel
theorem dX7_init_24 : decode cX7_init 24 = .ok (.newarray .int, 2) := by decide +kernel
theorem dX7_init_26 : decode cX7_init 26 = .ok (.putfield 20, 3) := by decide +kernel
theorem dX7_init_29 : decode cX7_init 29 = .ok (.aload_n 0, 1) := by decide +kernel
theorem dX7_init_30 : decode cX7_init 30 = .ok (.bipush 12, 2) := by decide +kernel
theorem dX7_init_32 : decode cX7_init 32 = .ok (.newarray .int, 2) := by decide +kernel
theorem dX7_init_34 : decode cX7_init 34 = .ok (.putfield 23, 3) := by decide +kernel
theorem dX7_init_37 : decode cX7_init 37 = .ok (.return_, 1) := by decide +kernel
theorem hn_7 : ∀ k t : Nat, fT 7 k = some t → k < 4 := fun k t h => match k, h with | 0, h => by decide | 1, h => by decide | 2, h => by decide | 3, h => by decide | 4, h => nomatch h | 5, h => nomatch h | 6, h => nomatch h | 7, h => nomatch h | k + 8, h => nomatch h
theorem hf_7 : ∀ j : Nat, (fun _ => (0 : Int32)) j = ini 7 j := fun j => by unfold ini; rw [if_neg (fun h => absurd h.1 (by decide)), if_neg (fun h => absurd h.1 (by decide))]
set_option maxHeartbeats 4000000 in
set_option maxRecDepth 100000 in
theorem kk_X7_init_7 (l : Launch) (D : va_G) (cA : Nat → ClassId) (L : List Nat) (T : Nat → Nat) (r : Rg) (σ : Sg) (ρ : Lg) (hL : L.Nodup) (sz : Nat) (h0 : Nat) (mh0 : h0 ∈ L) (th0 : T h0 = 7) (z0 : ∀ j, σ h0 j = 0) : Met l yX7_init (.code yX7_init cX7_init 1 none :: wsA) ({ frames := 1, cells := 4, slots := 437, locals := 40 }) (PR D cA L T r σ ρ sz [.ref h0]) (va_Qv (fun _ : Unit => True) (fun _ t => KQ D cA L T r σ h0 sz t) (dm L sz)) 4 437 (dm L sz) := by
  refine Met.ofW (cc := cX7_init) (maxL := 1) (ret := none) (by decide) rfl ?_
  intro p e s m args below meth c s₁ B hml hv
  obtain ⟨rfl, hsz, hP, hK, hN⟩ := hv
  have hx := B.exec
  have hb := B.bytes
  have hr := B.returns
  have hts : ∀ w ∈ wsA, w.before _ s = true := fun w h => atoms_spec (ws := .code yX7_init cX7_init 1 none :: wsA) B.pre w (List.mem_cons_of_mem _ h)
  have hown : s.vm.findClass RX7 = some m.cls := findClass_of_methodNamed B.named
  have hin : meth.name = "<init>" := (name_of_methodNamed B.named B.method).1
  subst hsz
  have hKS := KS.begin (sz := s.heap.size) hP ⟨hL, fun a h => Or.inl h⟩ mh0 th0 z0
  have hA : ∀ q : Nat, s.heap.size ≤ q → dm L s.heap.size q := fun q h => Or.inr h
  have hS : va_S (dm L s.heap.size) s.heap s.heap [] := va_S.rf
  have hl := lv_entry ([.ref h0]) (n := 1) (Nat.le_of_ble_eq_true rfl)
  rw [lg_entry_eq]
  generalize (lg_sl ([.ref h0]) ++ List.replicate (1 - (lg_sl ([.ref h0])).length) Slot.unset).toArray = ls at hl ⊢
  have hl : lv_has ls 1 [(0, .ref h0)] := hl
  refine lv_aload_n hx hb dX7_init_0 rfl (lv_at hl 0 rfl) ?_
  refine W.objInit hx hb hown (hts _ mw_2_181) (hts _ mw_1_28) (hts _ mw_1_29) rfl (by rw [hml]; exact hl.1) rfl dX7_init_1 (Nat.le_of_ble_eq_true rfl) (Nat.le_of_ble_eq_true rfl) ?_
  refine W.eq (g2 := F0 m 4 ls []) rfl ?_
  refine lv_aload_n hx hb dX7_init_4 rfl (lv_at hl 0 rfl) ?_
  refine lv_sipush (v := 401) hx hb dX7_init_5 (by decide) ?_
  refine k_na (atype := .int) (t := 41) (ki := 1) (a0 := (401, .inl (fun _ => 0))) hx hb hts mw_1_61 rfl (fun C h => by cases h) hK rfl hKS hS hA rfl (fun _ => rfl) (fun j => i0_41 j) (fun _ => rfl) (by decide) rfl (by decide) (Nat.le_of_ble_eq_true rfl) (Nat.le_of_ble_eq_true rfl) dX7_init_8 (fun q_1 L1 T1 r1 σ1 ρ1 H hKS mq_1 tq_1 hS => ?_)
  refine W.widen (k := 1) (n := 401) (Nat.le_of_ble_eq_true rfl) (Nat.le_of_ble_eq_true rfl) ?_
  refine k_pr hx hb hts hown hin hK hKS hS mq_1 tq_1 fq_7_0 rfl rfl rfl rfl (fun i h1 h2 => absurd h2 (by omega)) (fun _ h => by cases h) mw_2_182 dX7_init_10 (fun r1 H locs hKS _ _ hS => ?_)
  refine lv_aload_n hx hb dX7_init_13 rfl (lv_at hl 0 rfl) ?_
  refine lv_bipush (v := 12) hx hb dX7_init_14 (by decide) ?_
  refine k_na (atype := .int) (t := 42) (ki := 1) (a0 := (12, .inl (fun _ => 0))) hx hb hts mw_1_61 rfl (fun C h => by cases h) hK rfl hKS hS hA rfl (fun _ => rfl) (fun j => i0_42 j) (fun _ => rfl) (by decide) rfl (by decide) (Nat.le_of_ble_eq_true rfl) (Nat.le_of_ble_eq_true rfl) dX7_init_16 (fun q_2 L1 T1 r1 σ1 ρ1 H hKS mq_2 tq_2 hS => ?_)
  refine W.widen (k := 2) (n := 413) (Nat.le_of_ble_eq_true rfl) (Nat.le_of_ble_eq_true rfl) ?_
  refine k_pr hx hb hts hown hin hK hKS hS mq_2 tq_2 fq_7_1 rfl rfl rfl rfl (fun i h1 h2 => absurd h2 (by omega)) (fun _ h => by cases h) mw_2_183 dX7_init_18 (fun r1 H locs hKS _ _ hS => ?_)
  refine lv_aload_n hx hb dX7_init_21 rfl (lv_at hl 0 rfl) ?_
  refine lv_bipush (v := 12) hx hb dX7_init_22 (by decide) ?_
  refine k_na (atype := .int) (t := 43) (ki := 1) (a0 := (12, .inl (fun _ => 0))) hx hb hts mw_1_61 rfl (fun C h => by cases h) hK rfl hKS hS hA rfl (fun _ => rfl) (fun j => i0_43 j) (fun _ => rfl) (by decide) rfl (by decide) (Nat.le_of_ble_eq_true rfl) (Nat.le_of_ble_eq_true rfl) dX7_init_24 (fun q_3 L1 T1 r1 σ1 ρ1 H hKS mq_3 tq_3 hS => ?_)
  refine W.widen (k := 3) (n := 425) (Nat.le_of_ble_eq_true rfl) (Nat.le_of_ble_eq_true rfl) ?_
  refine k_pr hx hb hts hown hin hK hKS hS mq_3 tq_3 fq_7_2 rfl rfl rfl rfl (fun i h1 h2 => absurd h2 (by omega)) (fun _ h => by cases h) mw_2_184 dX7_init_26 (fun r1 H locs hKS _ _ hS => ?_)
  refine lv_aload_n hx hb dX7_init_29 rfl (lv_at hl 0 rfl) ?_
  refine lv_bipush (v := 12) hx hb dX7_init_30 (by decide) ?_
  refine k_na (atype := .int) (t := 44) (ki := 1) (a0 := (12, .inl (fun _ => 0))) hx hb hts mw_1_61 rfl (fun C h => by cases h) hK rfl hKS hS hA rfl (fun _ => rfl) (fun j => i0_44 j) (fun _ => rfl) (by decide) rfl (by decide) (Nat.le_of_ble_eq_true rfl) (Nat.le_of_ble_eq_true rfl) dX7_init_32 (fun q_4 L1 T1 r1 σ1 ρ1 H hKS mq_4 tq_4 hS => ?_)
  refine W.widen (k := 4) (n := 437) (Nat.le_of_ble_eq_true rfl) (Nat.le_of_ble_eq_true rfl) ?_
  refine k_pr hx hb hts hown hin hK hKS hS mq_4 tq_4 fq_7_3 rfl rfl rfl rfl (fun i h1 h2 => absurd h2 (by omega)) (fun _ h => by cases h) mw_2_185 dX7_init_34 (fun r1 H locs hKS _ _ hS => ?_)
  exact W.vret hx hb hr (fun t ht hW => ⟨⟨(), rfl, trivial, hKS.end hn_7 hf_7 ht⟩, hS.F ht⟩) hS.2.2 dX7_init_37
theorem mw_2_64 : (.methodLink RX6 3 objectInit : Cond) ∈ wsA := wsA_t (List.mem_append_right _ (List.mem_append_left _ (List.mem_of_getElem? (l := tables_1_2) (i := 64) rfl))) rfl
theorem mw_2_88 : (.arrayClass .long : Cond) ∈ wsA := wsA_t (List.mem_append_right _ (List.mem_append_left _ (List.mem_of_getElem? (l := tables_1_2) (i := 88) rfl))) rfl
theorem mw_2_65 : (.classLink RX6 20 RX8 : Cond) ∈ wsA := wsA_t (List.mem_append_right _ (List.mem_append_left _ (List.mem_of_getElem? (l := tables_1_2) (i := 65) rfl))) rfl
theorem dX6_init_0 : decode cX6_init 0 = .ok (.aload_n 0, 1) := by decide +kernel
theorem dX6_init_1 : decode cX6_init 1 = .ok (.invokespecial 3, 3) := by decide +kernel
theorem dX6_init_4 : decode cX6_init 4 = .ok (.aload_n 0, 1) := by decide +kernel
theorem dX6_init_5 : decode cX6_init 5 = .ok (.bipush 10, 2) := by decide +kernel
theorem dX6_init_7 : decode cX6_init 7 = .ok (.newarray .long, 2) := by decide +kernel
theorem dX6_init_9 : decode cX6_init 9 = .ok (.putfield 11, 3) := by decide +kernel
theorem dX6_init_12 : decode cX6_init 12 = .ok (.aload_n 0, 1) := by decide +kernel
theorem dX6_init_13 : decode cX6_init 13 = .ok (.bipush 64, 2) := by decide +kernel
theorem dX6_init_15 : decode cX6_init 15 = .ok (.newarray .long, 2) := by decide +kernel
theorem dX6_init_17 : decode cX6_init 17 = .ok (.putfield 17, 3) := by decide +kernel
theorem dX6_init_20 : decode cX6_init 20 = .ok (.aload_n 0, 1) := by decide +kernel
theorem dX6_init_21 : decode cX6_init 21 = .ok (.new 20, 3) := by decide +kernel
theorem dX6_init_24 : decode cX6_init 24 = .ok (.dup, 1) := by decide +kernel
theorem dX6_init_25 : decode cX6_init 25 = .ok (.invokespecial 22, 3) := by decide +kernel
theorem dX6_init_28 : decode cX6_init 28 = .ok (.putfield 23, 3) := by decide +kernel
theorem dX6_init_31 : decode cX6_init 31 = .ok (.return_, 1) := by decide +kernel
theorem hn_6 : ∀ k t : Nat, fT 6 k = some t → k < 3 := fun k t h => match k, h with | 0, h => by decide | 1, h => by decide | 2, h => by decide | 3, h => nomatch h | 4, h => nomatch h | 5, h => nomatch h | k + 6, h => nomatch h
theorem hf_6 : ∀ j : Nat, (fun _ => (0 : Int32)) j = ini 6 j := fun j => by unfold ini; rw [if_neg (fun h => absurd h.1 (by decide)), if_neg (fun h => absurd h.1 (by decide))]
set_option maxHeartbeats 4000000 in
set_option maxRecDepth 100000 in
theorem kk_X6_init_6 (l : Launch) (D : va_G) (cA : Nat → ClassId) (L : List Nat) (T : Nat → Nat) (r : Rg) (σ : Sg) (ρ : Lg) (hL : L.Nodup) (sz : Nat) (h0 : Nat) (mh0 : h0 ∈ L) (th0 : T h0 = 6) (z0 : ∀ j, σ h0 j = 0) : Met l yX6_init (.code yX6_init cX6_init 1 none :: wsA) ({ frames := 2, cells := 9, slots := 158, locals := 60 }) (PR D cA L T r σ ρ sz [.ref h0]) (va_Qv (fun _ : Unit => True) (fun _ t => KQ D cA L T r σ h0 sz t) (dm L sz)) 9 158 (dm L sz) := by
  refine Met.ofW (cc := cX6_init) (maxL := 1) (ret := none) (by decide) rfl ?_
  intro p e s m args below meth c s₁ B hml hv
  obtain ⟨rfl, hsz, hP, hK, hN⟩ := hv
  have hx := B.exec
  have hb := B.bytes
  have hr := B.returns
  have hts : ∀ w ∈ wsA, w.before _ s = true := fun w h => atoms_spec (ws := .code yX6_init cX6_init 1 none :: wsA) B.pre w (List.mem_cons_of_mem _ h)
  have hown : s.vm.findClass RX6 = some m.cls := findClass_of_methodNamed B.named
  have hin : meth.name = "<init>" := (name_of_methodNamed B.named B.method).1
  subst hsz
  have hKS := KS.begin (sz := s.heap.size) hP ⟨hL, fun a h => Or.inl h⟩ mh0 th0 z0
  have hA : ∀ q : Nat, s.heap.size ≤ q → dm L s.heap.size q := fun q h => Or.inr h
  have hS : va_S (dm L s.heap.size) s.heap s.heap [] := va_S.rf
  have hl := lv_entry ([.ref h0]) (n := 1) (Nat.le_of_ble_eq_true rfl)
  rw [lg_entry_eq]
  generalize (lg_sl ([.ref h0]) ++ List.replicate (1 - (lg_sl ([.ref h0])).length) Slot.unset).toArray = ls at hl ⊢
  have hl : lv_has ls 1 [(0, .ref h0)] := hl
  refine lv_aload_n hx hb dX6_init_0 rfl (lv_at hl 0 rfl) ?_
  refine W.objInit hx hb hown (hts _ mw_2_64) (hts _ mw_1_28) (hts _ mw_1_29) rfl (by rw [hml]; exact hl.1) rfl dX6_init_1 (Nat.le_of_ble_eq_true rfl) (Nat.le_of_ble_eq_true rfl) ?_
  refine W.eq (g2 := F0 m 4 ls []) rfl ?_
  refine lv_aload_n hx hb dX6_init_4 rfl (lv_at hl 0 rfl) ?_
  refine lv_bipush (v := 10) hx hb dX6_init_5 (by decide) ?_
  refine k_na (atype := .long) (t := 39) (ki := 2) (a0 := (10, .inr (.inl (fun _ => 0)))) hx hb hts mw_2_88 rfl (fun C h => by cases h) hK rfl hKS hS hA rfl (fun _ => rfl) (fun j => i0_39 j) (fun _ => rfl) (by decide) rfl (by decide) (Nat.le_of_ble_eq_true rfl) (Nat.le_of_ble_eq_true rfl) dX6_init_7 (fun q_1 L1 T1 r1 σ1 ρ1 H hKS mq_1 tq_1 hS => ?_)
  refine W.widen (k := 1) (n := 10) (Nat.le_of_ble_eq_true rfl) (Nat.le_of_ble_eq_true rfl) ?_
  refine k_pr hx hb hts hown hin hK hKS hS mq_1 tq_1 fq_6_0 rfl rfl rfl rfl (fun i h1 h2 => absurd h2 (by omega)) (fun _ h => by cases h) mw_2_67 dX6_init_9 (fun r1 H locs hKS _ _ hS => ?_)
  refine lv_aload_n hx hb dX6_init_12 rfl (lv_at hl 0 rfl) ?_
  refine lv_bipush (v := 64) hx hb dX6_init_13 (by decide) ?_
  refine k_na (atype := .long) (t := 40) (ki := 2) (a0 := (64, .inr (.inl (fun _ => 0)))) hx hb hts mw_2_88 rfl (fun C h => by cases h) hK rfl hKS hS hA rfl (fun _ => rfl) (fun j => i0_40 j) (fun _ => rfl) (by decide) rfl (by decide) (Nat.le_of_ble_eq_true rfl) (Nat.le_of_ble_eq_true rfl) dX6_init_15 (fun q_2 L1 T1 r1 σ1 ρ1 H hKS mq_2 tq_2 hS => ?_)
  refine W.widen (k := 2) (n := 74) (Nat.le_of_ble_eq_true rfl) (Nat.le_of_ble_eq_true rfl) ?_
  refine k_pr hx hb hts hown hin hK hKS hS mq_2 tq_2 fq_6_1 rfl rfl rfl rfl (fun i h1 h2 => absurd h2 (by omega)) (fun _ h => by cases h) mw_2_68 dX6_init_17 (fun r1 H locs hKS _ _ hS => ?_)
  refine lv_aload_n hx hb dX6_init_20 rfl (lv_at hl 0 rfl) ?_
  refine k_no (t := 103) (ci := 8) (TT := TX8) hx hb hts lay8 tyX8_ok hown mw_2_65 mw_1_75 mw_1_5 hK hKS hS hA rfl rfl (fun j hj => by rcases (show j = 0 ∨ j = 1 ∨ j = 2 ∨ j = 3 ∨ j = 4 ∨ j = 5 ∨ j = 6 ∨ j = 7 by omega) with rfl | rfl | rfl | rfl | rfl | rfl | rfl | rfl <;> rfl) (Nat.le_of_ble_eq_true rfl) (Nat.le_of_ble_eq_true rfl) dX6_init_21 (fun q_3 L1 T1 r1 σ1 ρ1 H hKS mq_3 tq_3 zq_3 nq_3 pq_3 hS => ?_)
  refine W.widen (k := 3) (n := 82) (Nat.le_of_ble_eq_true rfl) (Nat.le_of_ble_eq_true rfl) ?_
  refine lv_dup hx hb dX6_init_24 rfl ?_
  refine k_ci (va_runIN (As := []) (rest := [.ref q_3, .ref h0]) ⟨hx, hb, hml, hown, hts⟩ (kk_X8_init_103 l D cA _ _ _ _ _ hKS.2.1.1 _ q_3 mq_3 tq_3 zq_3) (cIN hts mi_X8_init hN (show (RX6, 22, yX8_init, RX11) ∈ nwL by decide +kernel) rfl rfl ⟨Nat.le_of_ble_eq_true rfl, Nat.le_of_ble_eq_true rfl⟩) (pS hKS.1 hK hN) rfl rfl hl.1 rfl (lv_room (Nat.le_of_ble_eq_true rfl)) dX6_init_25 ⟨Nat.le_of_ble_eq_true rfl, Nat.le_of_ble_eq_true rfl⟩) hKS mq_3 nq_3 pq_3 hA hS tq_3 (fun L1 T1 r1 σ1 ρ1 H locs hKS mq_3 tq_3 hS => ?_)
  refine W.widen (k := 9) (n := 158) (Nat.le_of_ble_eq_true rfl) (Nat.le_of_ble_eq_true rfl) ?_
  refine k_pr hx hb hts hown hin hK hKS hS mq_3 tq_3 fq_6_2 rfl rfl rfl rfl (fun i h1 h2 => absurd h2 (by omega)) (fun _ h => by cases h) mw_2_69 dX6_init_28 (fun r1 H locs hKS _ _ hS => ?_)
  exact W.vret hx hb hr (fun t ht hW => ⟨⟨(), rfl, trivial, hKS.end hn_6 hf_6 ht⟩, hS.F ht⟩) hS.2.2 dX6_init_31
theorem mw_2_94 : (.methodLink RX0 3 objectInit : Cond) ∈ wsA := wsA_t (List.mem_append_right _ (List.mem_append_left _ (List.mem_of_getElem? (l := tables_1_2) (i := 94) rfl))) rfl
theorem dX0_init_0 : decode cX0_init 0 = .ok (.aload_n 0, 1) := by decide +kernel
theorem dX0_init_1 : decode cX0_init 1 = .ok (.invokespecial 3, 3) := by decide +kernel
theorem dX0_init_4 : decode cX0_init 4 = .ok (.aload_n 0, 1) := by decide +kernel
theorem dX0_init_5 : decode cX0_init 5 = .ok (.iconst 5, 1) := by decide +kernel
theorem dX0_init_6 : decode cX0_init 6 = .ok (.newarray .int, 2) := by decide +kernel
theorem dX0_init_8 : decode cX0_init 8 = .ok (.putfield 9, 3) := by decide +kernel
theorem dX0_init_11 : decode cX0_init 11 = .ok (.aload_n 0, 1) := by decide +kernel
theorem dX0_init_12 : decode cX0_init 12 = .ok (.iconst 5, 1) := by decide +kernel
theorem dX0_init_13 : decode cX0_init 13 = .ok (.newarray .int, 2) := by decide +kernel
theorem dX0_init_15 : decode cX0_init 15 = .ok (.putfield 15, 3) := by decide +kernel
theorem dX0_init_18 : decode cX0_init 18 = .ok (.aload_n 0, 1) := by decide +kernel
theorem dX0_init_19 : decode cX0_init 19 = .ok (.iconst 5, 1) := by decide +kernel
theorem dX0_init_20 : decode cX0_init 20 = .ok (.newarray .int, 2) := by decide +kernel
theorem dX0_init_22 : decode cX0_init 22 = .ok (.putfield 18, 3) := by decide +kernel
theorem dX0_init_25 : decode cX0_init 25 = .ok (.aload_n 0, 1) := by decide +kernel
theorem dX0_init_26 : decode cX0_init 26 = .ok (.sipush 1024, 3) := by decide +kernel
theorem dX0_init_29 : decode cX0_init 29 = .ok (.newarray .int, 2) := by decide +kernel
theorem dX0_init_31 : decode cX0_init 31 = .ok (.putfield 21, 3) := by decide +kernel
theorem dX0_init_34 : decode cX0_init 34 = .ok (.return_, 1) := by decide +kernel
theorem hn_0 : ∀ k t : Nat, fT 0 k = some t → k < 4 := fun k t h => match k, h with | 0, h => by decide | 1, h => by decide | 2, h => by decide | 3, h => by decide | 4, h => nomatch h | 5, h => nomatch h | k + 6, h => nomatch h
theorem hf_0 : ∀ j : Nat, (fun _ => (0 : Int32)) j = ini 0 j := fun j => by unfold ini; rw [if_neg (fun h => absurd h.1 (by decide)), if_neg (fun h => absurd h.1 (by decide))]
set_option maxHeartbeats 4000000 in
set_option maxRecDepth 100000 in
theorem kk_X0_init_0 (l : Launch) (D : va_G) (cA : Nat → ClassId) (L : List Nat) (T : Nat → Nat) (r : Rg) (σ : Sg) (ρ : Lg) (hL : L.Nodup) (sz : Nat) (h0 : Nat) (mh0 : h0 ∈ L) (th0 : T h0 = 0) (z0 : ∀ j, σ h0 j = 0) : Met l yX0_init (.code yX0_init cX0_init 1 none :: wsA) ({ frames := 1, cells := 4, slots := 1039, locals := 40 }) (PR D cA L T r σ ρ sz [.ref h0]) (va_Qv (fun _ : Unit => True) (fun _ t => KQ D cA L T r σ h0 sz t) (dm L sz)) 4 1039 (dm L sz) := by
  refine Met.ofW (cc := cX0_init) (maxL := 1) (ret := none) (by decide) rfl ?_
  intro p e s m args below meth c s₁ B hml hv
  obtain ⟨rfl, hsz, hP, hK, hN⟩ := hv
  have hx := B.exec
  have hb := B.bytes
  have hr := B.returns
  have hts : ∀ w ∈ wsA, w.before _ s = true := fun w h => atoms_spec (ws := .code yX0_init cX0_init 1 none :: wsA) B.pre w (List.mem_cons_of_mem _ h)
  have hown : s.vm.findClass RX0 = some m.cls := findClass_of_methodNamed B.named
  have hin : meth.name = "<init>" := (name_of_methodNamed B.named B.method).1
  subst hsz
  have hKS := KS.begin (sz := s.heap.size) hP ⟨hL, fun a h => Or.inl h⟩ mh0 th0 z0
  have hA : ∀ q : Nat, s.heap.size ≤ q → dm L s.heap.size q := fun q h => Or.inr h
  have hS : va_S (dm L s.heap.size) s.heap s.heap [] := va_S.rf
  have hl := lv_entry ([.ref h0]) (n := 1) (Nat.le_of_ble_eq_true rfl)
  rw [lg_entry_eq]
  generalize (lg_sl ([.ref h0]) ++ List.replicate (1 - (lg_sl ([.ref h0])).length) Slot.unset).toArray = ls at hl ⊢
  have hl : lv_has ls 1 [(0, .ref h0)] := hl
  refine lv_aload_n hx hb dX0_init_0 rfl (lv_at hl 0 rfl) ?_
  refine W.objInit hx hb hown (hts _ mw_2_94) (hts _ mw_1_28) (hts _ mw_1_29) rfl (by rw [hml]; exact hl.1) rfl dX0_init_1 (Nat.le_of_ble_eq_true rfl) (Nat.le_of_ble_eq_true rfl) ?_
  refine W.eq (g2 := F0 m 4 ls []) rfl ?_
  refine lv_aload_n hx hb dX0_init_4 rfl (lv_at hl 0 rfl) ?_
  refine lv_iconst (v := 5) hx hb dX0_init_5 (by decide) ?_
  refine k_na (atype := .int) (t := 20) (ki := 1) (a0 := (5, .inl (fun _ => 0))) hx hb hts mw_1_61 rfl (fun C h => by cases h) hK rfl hKS hS hA rfl (fun _ => rfl) (fun j => i0_20 j) (fun _ => rfl) (by decide) rfl (by decide) (Nat.le_of_ble_eq_true rfl) (Nat.le_of_ble_eq_true rfl) dX0_init_6 (fun q_1 L1 T1 r1 σ1 ρ1 H hKS mq_1 tq_1 hS => ?_)
  refine W.widen (k := 1) (n := 5) (Nat.le_of_ble_eq_true rfl) (Nat.le_of_ble_eq_true rfl) ?_
  refine k_pr hx hb hts hown hin hK hKS hS mq_1 tq_1 fq_0_0 rfl rfl rfl rfl (fun i h1 h2 => absurd h2 (by omega)) (fun _ h => by cases h) mw_2_95 dX0_init_8 (fun r1 H locs hKS _ _ hS => ?_)
  refine lv_aload_n hx hb dX0_init_11 rfl (lv_at hl 0 rfl) ?_
  refine lv_iconst (v := 5) hx hb dX0_init_12 (by decide) ?_
  refine k_na (atype := .int) (t := 21) (ki := 1) (a0 := (5, .inl (fun _ => 0))) hx hb hts mw_1_61 rfl (fun C h => by cases h) hK rfl hKS hS hA rfl (fun _ => rfl) (fun j => i0_21 j) (fun _ => rfl) (by decide) rfl (by decide) (Nat.le_of_ble_eq_true rfl) (Nat.le_of_ble_eq_true rfl) dX0_init_13 (fun q_2 L1 T1 r1 σ1 ρ1 H hKS mq_2 tq_2 hS => ?_)
  refine W.widen (k := 2) (n := 10) (Nat.le_of_ble_eq_true rfl) (Nat.le_of_ble_eq_true rfl) ?_
  refine k_pr hx hb hts hown hin hK hKS hS mq_2 tq_2 fq_0_1 rfl rfl rfl rfl (fun i h1 h2 => absurd h2 (by omega)) (fun _ h => by cases h) mw_2_97 dX0_init_15 (fun r1 H locs hKS _ _ hS => ?_)
  refine lv_aload_n hx hb dX0_init_18 rfl (lv_at hl 0 rfl) ?_
  refine lv_iconst (v := 5) hx hb dX0_init_19 (by decide) ?_
  refine k_na (atype := .int) (t := 22) (ki := 1) (a0 := (5, .inl (fun _ => 0))) hx hb hts mw_1_61 rfl (fun C h => by cases h) hK rfl hKS hS hA rfl (fun _ => rfl) (fun j => i0_22 j) (fun _ => rfl) (by decide) rfl (by decide) (Nat.le_of_ble_eq_true rfl) (Nat.le_of_ble_eq_true rfl) dX0_init_20 (fun q_3 L1 T1 r1 σ1 ρ1 H hKS mq_3 tq_3 hS => ?_)
  refine W.widen (k := 3) (n := 15) (Nat.le_of_ble_eq_true rfl) (Nat.le_of_ble_eq_true rfl) ?_
  refine k_pr hx hb hts hown hin hK hKS hS mq_3 tq_3 fq_0_2 rfl rfl rfl rfl (fun i h1 h2 => absurd h2 (by omega)) (fun _ h => by cases h) mw_2_99 dX0_init_22 (fun r1 H locs hKS _ _ hS => ?_)
  refine lv_aload_n hx hb dX0_init_25 rfl (lv_at hl 0 rfl) ?_
  refine lv_sipush (v := 1024) hx hb dX0_init_26 (by decide) ?_
  refine k_na (atype := .int) (t := 23) (ki := 1) (a0 := (1024, .inl (fun _ => 0))) hx hb hts mw_1_61 rfl (fun C h => by cases h) hK rfl hKS hS hA rfl (fun _ => rfl) (fun j => i0_23 j) (fun _ => rfl) (by decide) rfl (by decide) (Nat.le_of_ble_eq_true rfl) (Nat.le_of_ble_eq_true rfl) dX0_init_29 (fun q_4 L1 T1 r1 σ1 ρ1 H hKS mq_4 tq_4 hS => ?_)
  refine W.widen (k := 4) (n := 1039) (Nat.le_of_ble_eq_true rfl) (Nat.le_of_ble_eq_true rfl) ?_
  refine k_pr hx hb hts hown hin hK hKS hS mq_4 tq_4 fq_0_3 rfl rfl rfl rfl (fun i h1 h2 => absurd h2 (by omega)) (fun _ h => by cases h) mw_2_101 dX0_init_31 (fun r1 H locs hKS _ _ hS => ?_)
  exact W.vret hx hb hr (fun t ht hW => ⟨⟨(), rfl, trivial, hKS.end hn_0 hf_0 ht⟩, hS.F ht⟩) hS.2.2 dX0_init_34
theorem mw_2_124 : (.methodLink RX1 3 objectInit : Cond) ∈ wsA := wsA_t (List.mem_append_right _ (List.mem_append_left _ (List.mem_of_getElem? (l := tables_1_2) (i := 124) rfl))) rfl
theorem dX1_init_0 : decode cX1_init 0 = .ok (.aload_n 0, 1) := by decide +kernel
theorem dX1_init_1 : decode cX1_init 1 = .ok (.invokespecial 3, 3) := by decide +kernel
theorem dX1_init_4 : decode cX1_init 4 = .ok (.aload_n 0, 1) := by decide +kernel
theorem dX1_init_5 : decode cX1_init 5 = .ok (.iconst 5, 1) := by decide +kernel
theorem dX1_init_6 : decode cX1_init 6 = .ok (.newarray .int, 2) := by decide +kernel
theorem dX1_init_8 : decode cX1_init 8 = .ok (.putfield 9, 3) := by decide +kernel
theorem dX1_init_11 : decode cX1_init 11 = .ok (.aload_n 0, 1) := by decide +kernel
theorem dX1_init_12 : decode cX1_init 12 = .ok (.iconst 5, 1) := by decide +kernel
theorem dX1_init_13 : decode cX1_init 13 = .ok (.newarray .int, 2) := by decide +kernel
theorem dX1_init_15 : decode cX1_init 15 = .ok (.putfield 15, 3) := by decide +kernel
theorem dX1_init_18 : decode cX1_init 18 = .ok (.aload_n 0, 1) := by decide +kernel
theorem dX1_init_19 : decode cX1_init 19 = .ok (.bipush 8, 2) := by decide +kernel
theorem dX1_init_21 : decode cX1_init 21 = .ok (.newarray .int, 2) := by decide +kernel
theorem dX1_init_23 : decode cX1_init 23 = .ok (.putfield 18, 3) := by decide +kernel
theorem dX1_init_26 : decode cX1_init 26 = .ok (.aload_n 0, 1) := by decide +kernel
theorem dX1_init_27 : decode cX1_init 27 = .ok (.iconst 5, 1) := by decide +kernel
theorem dX1_init_28 : decode cX1_init 28 = .ok (.newarray .int, 2) := by decide +kernel
theorem dX1_init_30 : decode cX1_init 30 = .ok (.putfield 21, 3) := by decide +kernel
theorem dX1_init_33 : decode cX1_init 33 = .ok (.aload_n 0, 1) := by decide +kernel
theorem dX1_init_34 : decode cX1_init 34 = .ok (.iconst 5, 1) := by decide +kernel
theorem dX1_init_35 : decode cX1_init 35 = .ok (.newarray .int, 2) := by decide +kernel
theorem dX1_init_37 : decode cX1_init 37 = .ok (.putfield 24, 3) := by decide +kernel
theorem dX1_init_40 : decode cX1_init 40 = .ok (.aload_n 0, 1) := by decide +kernel
theorem dX1_init_41 : decode cX1_init 41 = .ok (.bipush 8, 2) := by decide +kernel
theorem dX1_init_43 : decode cX1_init 43 = .ok (.newarray .int, 2) := by decide +kernel
theorem dX1_init_45 : decode cX1_init 45 = .ok (.putfield 27, 3) := by decide +kernel
theorem dX1_init_48 : decode cX1_init 48 = .ok (.aload_n 0, 1) := by decide +kernel
theorem dX1_init_49 : decode cX1_init 49 = .ok (.bipush 8, 2) := by decide +kernel
theorem dX1_init_51 : decode cX1_init 51 = .ok (.newarray .int, 2) := by decide +kernel
theorem dX1_init_53 : decode cX1_init 53 = .ok (.putfield 30, 3) := by decide +kernel
theorem dX1_init_56 : decode cX1_init 56 = .ok (.return_, 1) := by decide +kernel
theorem hn_1 : ∀ k t : Nat, fT 1 k = some t → k < 8 := fun k t h => match k, h with | 0, h => by decide | 1, h => by decide | 2, h => by decide | 3, h => by decide | 4, h => nomatch h | 5, h => by decide | 6, h => by decide | 7, h => by decide | 8, h => nomatch h | k + 9, h => nomatch h
theorem hf_1 : ∀ j : Nat, (fun _ => (0 : Int32)) j = ini 1 j := fun j => by unfold ini; rw [if_neg (fun h => absurd h.1 (by decide)), if_neg (fun h => absurd h.1 (by decide))]
set_option maxHeartbeats 4000000 in
set_option maxRecDepth 100000 in
theorem kk_X1_init_1 (l : Launch) (D : va_G) (cA : Nat → ClassId) (L : List Nat) (T : Nat → Nat) (r : Rg) (σ : Sg) (ρ : Lg) (hL : L.Nodup) (sz : Nat) (h0 : Nat) (mh0 : h0 ∈ L) (th0 : T h0 = 1) (z0 : ∀ j, σ h0 j = 0) : Met l yX1_init (.code yX1_init cX1_init 1 none :: wsA) ({ frames := 1, cells := 7, slots := 44, locals := 40 }) (PR D cA L T r σ ρ sz [.ref h0]) (va_Qv (fun _ : Unit => True) (fun _ t => KQ D cA L T r σ h0 sz t) (dm L sz)) 7 44 (dm L sz) := by
  refine Met.ofW (cc := cX1_init) (maxL := 1) (ret := none) (by decide) rfl ?_
  intro p e s m args below meth c s₁ B hml hv
  obtain ⟨rfl, hsz, hP, hK, hN⟩ := hv
  have hx := B.exec
  have hb := B.bytes
  have hr := B.returns
  have hts : ∀ w ∈ wsA, w.before _ s = true := fun w h => atoms_spec (ws := .code yX1_init cX1_init 1 none :: wsA) B.pre w (List.mem_cons_of_mem _ h)
  have hown : s.vm.findClass RX1 = some m.cls := findClass_of_methodNamed B.named
  have hin : meth.name = "<init>" := (name_of_methodNamed B.named B.method).1
  subst hsz
  have hKS := KS.begin (sz := s.heap.size) hP ⟨hL, fun a h => Or.inl h⟩ mh0 th0 z0
  have hA : ∀ q : Nat, s.heap.size ≤ q → dm L s.heap.size q := fun q h => Or.inr h
  have hS : va_S (dm L s.heap.size) s.heap s.heap [] := va_S.rf
  have hl := lv_entry ([.ref h0]) (n := 1) (Nat.le_of_ble_eq_true rfl)
  rw [lg_entry_eq]
  generalize (lg_sl ([.ref h0]) ++ List.replicate (1 - (lg_sl ([.ref h0])).length) Slot.unset).toArray = ls at hl ⊢
  have hl : lv_has ls 1 [(0, .ref h0)] := hl
  refine lv_aload_n hx hb dX1_init_0 rfl (lv_at hl 0 rfl) ?_
  refine W.objInit hx hb hown (hts _ mw_2_124) (hts _ mw_1_28) (hts _ mw_1_29) rfl (by rw [hml]; exact hl.1) rfl dX1_init_1 (Nat.le_of_ble_eq_true rfl) (Nat.le_of_ble_eq_true rfl) ?_
  refine W.eq (g2 := F0 m 4 ls []) rfl ?_
  refine lv_aload_n hx hb dX1_init_4 rfl (lv_at hl 0 rfl) ?_
  refine lv_iconst (v := 5) hx hb dX1_init_5 (by decide) ?_
  refine k_na (atype := .int) (t := 24) (ki := 1) (a0 := (5, .inl (fun _ => 0))) hx hb hts mw_1_61 rfl (fun C h => by cases h) hK rfl hKS hS hA rfl (fun _ => rfl) (fun j => i0_24 j) (fun _ => rfl) (by decide) rfl (by decide) (Nat.le_of_ble_eq_true rfl) (Nat.le_of_ble_eq_true rfl) dX1_init_6 (fun q_1 L1 T1 r1 σ1 ρ1 H hKS mq_1 tq_1 hS => ?_)
  refine W.widen (k := 1) (n := 5) (Nat.le_of_ble_eq_true rfl) (Nat.le_of_ble_eq_true rfl) ?_
  refine k_pr hx hb hts hown hin hK hKS hS mq_1 tq_1 fq_1_0 rfl rfl rfl rfl (fun i h1 h2 => absurd h2 (by omega)) (fun _ h => by cases h) mw_2_125 dX1_init_8 (fun r1 H locs hKS _ _ hS => ?_)
  refine lv_aload_n hx hb dX1_init_11 rfl (lv_at hl 0 rfl) ?_
  refine lv_iconst (v := 5) hx hb dX1_init_12 (by decide) ?_
  refine k_na (atype := .int) (t := 25) (ki := 1) (a0 := (5, .inl (fun _ => 0))) hx hb hts mw_1_61 rfl (fun C h => by cases h) hK rfl hKS hS hA rfl (fun _ => rfl) (fun j => i0_25 j) (fun _ => rfl) (by decide) rfl (by decide) (Nat.le_of_ble_eq_true rfl) (Nat.le_of_ble_eq_true rfl) dX1_init_13 (fun q_2 L1 T1 r1 σ1 ρ1 H hKS mq_2 tq_2 hS => ?_)
  refine W.widen (k := 2) (n := 10) (Nat.le_of_ble_eq_true rfl) (Nat.le_of_ble_eq_true rfl) ?_
  refine k_pr hx hb hts hown hin hK hKS hS mq_2 tq_2 fq_1_1 rfl rfl rfl rfl (fun i h1 h2 => absurd h2 (by omega)) (fun _ h => by cases h) mw_2_126 dX1_init_15 (fun r1 H locs hKS _ _ hS => ?_)
  refine lv_aload_n hx hb dX1_init_18 rfl (lv_at hl 0 rfl) ?_
  refine lv_bipush (v := 8) hx hb dX1_init_19 (by decide) ?_
  refine k_na (atype := .int) (t := 26) (ki := 1) (a0 := (8, .inl (fun _ => 0))) hx hb hts mw_1_61 rfl (fun C h => by cases h) hK rfl hKS hS hA rfl (fun _ => rfl) (fun j => i0_26 j) (fun _ => rfl) (by decide) rfl (by decide) (Nat.le_of_ble_eq_true rfl) (Nat.le_of_ble_eq_true rfl) dX1_init_21 (fun q_3 L1 T1 r1 σ1 ρ1 H hKS mq_3 tq_3 hS => ?_)
  refine W.widen (k := 3) (n := 18) (Nat.le_of_ble_eq_true rfl) (Nat.le_of_ble_eq_true rfl) ?_
  refine k_pr hx hb hts hown hin hK hKS hS mq_3 tq_3 fq_1_2 rfl rfl rfl rfl (fun i h1 h2 => absurd h2 (by omega)) (fun _ h => by cases h) mw_2_127 dX1_init_23 (fun r1 H locs hKS _ _ hS => ?_)
  refine lv_aload_n hx hb dX1_init_26 rfl (lv_at hl 0 rfl) ?_
  refine lv_iconst (v := 5) hx hb dX1_init_27 (by decide) ?_
  refine k_na (atype := .int) (t := 27) (ki := 1) (a0 := (5, .inl (fun _ => 0))) hx hb hts mw_1_61 rfl (fun C h => by cases h) hK rfl hKS hS hA rfl (fun _ => rfl) (fun j => i0_27 j) (fun _ => rfl) (by decide) rfl (by decide) (Nat.le_of_ble_eq_true rfl) (Nat.le_of_ble_eq_true rfl) dX1_init_28 (fun q_4 L1 T1 r1 σ1 ρ1 H hKS mq_4 tq_4 hS => ?_)
  refine W.widen (k := 4) (n := 23) (Nat.le_of_ble_eq_true rfl) (Nat.le_of_ble_eq_true rfl) ?_
  refine k_pr hx hb hts hown hin hK hKS hS mq_4 tq_4 fq_1_3 rfl rfl rfl rfl (fun i h1 h2 => absurd h2 (by omega)) (fun _ h => by cases h) mw_2_128 dX1_init_30 (fun r1 H locs hKS _ _ hS => ?_)
  refine lv_aload_n hx hb dX1_init_33 rfl (lv_at hl 0 rfl) ?_
  refine lv_iconst (v := 5) hx hb dX1_init_34 (by decide) ?_
  refine k_na (atype := .int) (t := 28) (ki := 1) (a0 := (5, .inl (fun _ => 0))) hx hb hts mw_1_61 rfl (fun C h => by cases h) hK rfl hKS hS hA rfl (fun _ => rfl) (fun j => i0_28 j) (fun _ => rfl) (by decide) rfl (by decide) (Nat.le_of_ble_eq_true rfl) (Nat.le_of_ble_eq_true rfl) dX1_init_35 (fun q_5 L1 T1 r1 σ1 ρ1 H hKS mq_5 tq_5 hS => ?_)
  refine W.widen (k := 5) (n := 28) (Nat.le_of_ble_eq_true rfl) (Nat.le_of_ble_eq_true rfl) ?_
  refine k_pr hx hb hts hown hin hK hKS hS mq_5 tq_5 fq_1_5 rfl rfl rfl rfl (fun i h1 h2 => by rcases (show i = 4 by omega) with rfl <;> rfl) (fun _ h => by cases h) mw_2_131 dX1_init_37 (fun r1 H locs hKS _ _ hS => ?_)
  refine lv_aload_n hx hb dX1_init_40 rfl (lv_at hl 0 rfl) ?_
  refine lv_bipush (v := 8) hx hb dX1_init_41 (by decide) ?_
  refine k_na (atype := .int) (t := 29) (ki := 1) (a0 := (8, .inl (fun _ => 0))) hx hb hts mw_1_61 rfl (fun C h => by cases h) hK rfl hKS hS hA rfl (fun _ => rfl) (fun j => i0_29 j) (fun _ => rfl) (by decide) rfl (by decide) (Nat.le_of_ble_eq_true rfl) (Nat.le_of_ble_eq_true rfl) dX1_init_43 (fun q_6 L1 T1 r1 σ1 ρ1 H hKS mq_6 tq_6 hS => ?_)
  refine W.widen (k := 6) (n := 36) (Nat.le_of_ble_eq_true rfl) (Nat.le_of_ble_eq_true rfl) ?_
  refine k_pr hx hb hts hown hin hK hKS hS mq_6 tq_6 fq_1_6 rfl rfl rfl rfl (fun i h1 h2 => absurd h2 (by omega)) (fun _ h => by cases h) mw_2_132 dX1_init_45 (fun r1 H locs hKS _ _ hS => ?_)
  refine lv_aload_n hx hb dX1_init_48 rfl (lv_at hl 0 rfl) ?_
  refine lv_bipush (v := 8) hx hb dX1_init_49 (by decide) ?_
  refine k_na (atype := .int) (t := 30) (ki := 1) (a0 := (8, .inl (fun _ => 0))) hx hb hts mw_1_61 rfl (fun C h => by cases h) hK rfl hKS hS hA rfl (fun _ => rfl) (fun j => i0_30 j) (fun _ => rfl) (by decide) rfl (by decide) (Nat.le_of_ble_eq_true rfl) (Nat.le_of_ble_eq_true rfl) dX1_init_51 (fun q_7 L1 T1 r1 σ1 ρ1 H hKS mq_7 tq_7 hS => ?_)
  refine W.widen (k := 7) (n := 44) (Nat.le_of_ble_eq_true rfl) (Nat.le_of_ble_eq_true rfl) ?_
  refine k_pr hx hb hts hown hin hK hKS hS mq_7 tq_7 fq_1_7 rfl rfl rfl rfl (fun i h1 h2 => absurd h2 (by omega)) (fun _ h => by cases h) mw_2_134 dX1_init_53 (fun r1 H locs hKS _ _ hS => ?_)
  exact W.vret hx hb hr (fun t ht hW => ⟨⟨(), rfl, trivial, hKS.end hn_1 hf_1 ht⟩, hS.F ht⟩) hS.2.2 dX1_init_56
theorem mw_2_161 : (.methodLink RX2 3 objectInit : Cond) ∈ wsA := wsA_t (List.mem_append_right _ (List.mem_append_left _ (List.mem_of_getElem? (l := tables_1_2) (i := 161) rfl))) rfl
theorem mw_2_162 : (.classLink RX2 18 RX8 : Cond) ∈ wsA := wsA_t (List.mem_append_right _ (List.mem_append_left _ (List.mem_of_getElem? (l := tables_1_2) (i := 162) rfl))) rfl
theorem dX2_init_0 : decode cX2_init 0 = .ok (.aload_n 0, 1) := by decide +kernel
theorem dX2_init_1 : decode cX2_init 1 = .ok (.invokespecial 3, 3) := by decide +kernel
theorem dX2_init_4 : decode cX2_init 4 = .ok (.aload_n 0, 1) := by decide +kernel
theorem dX2_init_5 : decode cX2_init 5 = .ok (.sipush 427, 3) := by decide +kernel
theorem dX2_init_8 : decode cX2_init 8 = .ok (.newarray .int, 2) := by decide +kernel
theorem dX2_init_10 : decode cX2_init 10 = .ok (.putfield 11, 3) := by decide +kernel
theorem dX2_init_13 : decode cX2_init 13 = .ok (.aload_n 0, 1) := by decide +kernel
theorem dX2_init_14 : decode cX2_init 14 = .ok (.iconst 5, 1) := by decide +kernel
theorem dX2_init_15 : decode cX2_init 15 = .ok (.newarray .int, 2) := by decide +kernel
theorem dX2_init_17 : decode cX2_init 17 = .ok (.putfield 15, 3) := by decide +kernel
theorem dX2_init_20 : decode cX2_init 20 = .ok (.aload_n 0, 1) := by decide +kernel
theorem dX2_init_21 : decode cX2_init 21 = .ok (.new 18, 3) := by decide +kernel
theorem dX2_init_24 : decode cX2_init 24 = .ok (.dup, 1) := by decide +kernel
theorem dX2_init_25 : decode cX2_init 25 = .ok (.invokespecial 20, 3) := by decide +kernel
theorem dX2_init_28 : decode cX2_init 28 = .ok (.putfield 21, 3) := by decide +kernel
theorem dX2_init_31 : decode cX2_init 31 = .ok (.return_, 1) := by decide +kernel
theorem hn_2 : ∀ k t : Nat, fT 2 k = some t → k < 3 := fun k t h => match k, h with | 0, h => by decide | 1, h => by decide | 2, h => by decide | 3, h => nomatch h | k + 4, h => nomatch h
theorem hf_2 : ∀ j : Nat, (fun _ => (0 : Int32)) j = ini 2 j := fun j => by unfold ini; rw [if_neg (fun h => absurd h.1 (by decide)), if_neg (fun h => absurd h.1 (by decide))]
set_option maxHeartbeats 4000000 in
set_option maxRecDepth 100000 in
theorem kk_X2_init_2 (l : Launch) (D : va_G) (cA : Nat → ClassId) (L : List Nat) (T : Nat → Nat) (r : Rg) (σ : Sg) (ρ : Lg) (hL : L.Nodup) (sz : Nat) (h0 : Nat) (mh0 : h0 ∈ L) (th0 : T h0 = 2) (z0 : ∀ j, σ h0 j = 0) : Met l yX2_init (.code yX2_init cX2_init 1 none :: wsA) ({ frames := 2, cells := 9, slots := 516, locals := 60 }) (PR D cA L T r σ ρ sz [.ref h0]) (va_Qv (fun _ : Unit => True) (fun _ t => KQ D cA L T r σ h0 sz t) (dm L sz)) 9 516 (dm L sz) := by
  refine Met.ofW (cc := cX2_init) (maxL := 1) (ret := none) (by decide) rfl ?_
  intro p e s m args below meth c s₁ B hml hv
  obtain ⟨rfl, hsz, hP, hK, hN⟩ := hv
  have hx := B.exec
  have hb := B.bytes
  have hr := B.returns
  have hts : ∀ w ∈ wsA, w.before _ s = true := fun w h => atoms_spec (ws := .code yX2_init cX2_init 1 none :: wsA) B.pre w (List.mem_cons_of_mem _ h)
  have hown : s.vm.findClass RX2 = some m.cls := findClass_of_methodNamed B.named
  have hin : meth.name = "<init>" := (name_of_methodNamed B.named B.method).1
  subst hsz
  have hKS := KS.begin (sz := s.heap.size) hP ⟨hL, fun a h => Or.inl h⟩ mh0 th0 z0
  have hA : ∀ q : Nat, s.heap.size ≤ q → dm L s.heap.size q := fun q h => Or.inr h
  have hS : va_S (dm L s.heap.size) s.heap s.heap [] := va_S.rf
  have hl := lv_entry ([.ref h0]) (n := 1) (Nat.le_of_ble_eq_true rfl)
  rw [lg_entry_eq]
  generalize (lg_sl ([.ref h0]) ++ List.replicate (1 - (lg_sl ([.ref h0])).length) Slot.unset).toArray = ls at hl ⊢
  have hl : lv_has ls 1 [(0, .ref h0)] := hl
  refine lv_aload_n hx hb dX2_init_0 rfl (lv_at hl 0 rfl) ?_
  refine W.objInit hx hb hown (hts _ mw_2_161) (hts _ mw_1_28) (hts _ mw_1_29) rfl (by rw [hml]; exact hl.1) rfl dX2_init_1 (Nat.le_of_ble_eq_true rfl) (Nat.le_of_ble_eq_true rfl) ?_
  refine W.eq (g2 := F0 m 4 ls []) rfl ?_
  refine lv_aload_n hx hb dX2_init_4 rfl (lv_at hl 0 rfl) ?_
  refine lv_sipush (v := 427) hx hb dX2_init_5 (by decide) ?_
  refine k_na (atype := .int) (t := 31) (ki := 1) (a0 := (427, .inl (fun _ => 0))) hx hb hts mw_1_61 rfl (fun C h => by cases h) hK rfl hKS hS hA rfl (fun _ => rfl) (fun j => i0_31 j) (fun _ => rfl) (by decide) rfl (by decide) (Nat.le_of_ble_eq_true rfl) (Nat.le_of_ble_eq_true rfl) dX2_init_8 (fun q_1 L1 T1 r1 σ1 ρ1 H hKS mq_1 tq_1 hS => ?_)
  refine W.widen (k := 1) (n := 427) (Nat.le_of_ble_eq_true rfl) (Nat.le_of_ble_eq_true rfl) ?_
  refine k_pr hx hb hts hown hin hK hKS hS mq_1 tq_1 fq_2_0 rfl rfl rfl rfl (fun i h1 h2 => absurd h2 (by omega)) (fun _ h => by cases h) mw_2_164 dX2_init_10 (fun r1 H locs hKS _ _ hS => ?_)
  refine lv_aload_n hx hb dX2_init_13 rfl (lv_at hl 0 rfl) ?_
  refine lv_iconst (v := 5) hx hb dX2_init_14 (by decide) ?_
  refine k_na (atype := .int) (t := 32) (ki := 1) (a0 := (5, .inl (fun _ => 0))) hx hb hts mw_1_61 rfl (fun C h => by cases h) hK rfl hKS hS hA rfl (fun _ => rfl) (fun j => i0_32 j) (fun _ => rfl) (by decide) rfl (by decide) (Nat.le_of_ble_eq_true rfl) (Nat.le_of_ble_eq_true rfl) dX2_init_15 (fun q_2 L1 T1 r1 σ1 ρ1 H hKS mq_2 tq_2 hS => ?_)
  refine W.widen (k := 2) (n := 432) (Nat.le_of_ble_eq_true rfl) (Nat.le_of_ble_eq_true rfl) ?_
  refine k_pr hx hb hts hown hin hK hKS hS mq_2 tq_2 fq_2_1 rfl rfl rfl rfl (fun i h1 h2 => absurd h2 (by omega)) (fun _ h => by cases h) mw_2_165 dX2_init_17 (fun r1 H locs hKS _ _ hS => ?_)
  refine lv_aload_n hx hb dX2_init_20 rfl (lv_at hl 0 rfl) ?_
  refine k_no (t := 104) (ci := 8) (TT := TX8) hx hb hts lay8 tyX8_ok hown mw_2_162 mw_1_75 mw_1_5 hK hKS hS hA rfl rfl (fun j hj => by rcases (show j = 0 ∨ j = 1 ∨ j = 2 ∨ j = 3 ∨ j = 4 ∨ j = 5 ∨ j = 6 ∨ j = 7 by omega) with rfl | rfl | rfl | rfl | rfl | rfl | rfl | rfl <;> rfl) (Nat.le_of_ble_eq_true rfl) (Nat.le_of_ble_eq_true rfl) dX2_init_21 (fun q_3 L1 T1 r1 σ1 ρ1 H hKS mq_3 tq_3 zq_3 nq_3 pq_3 hS => ?_)
  refine W.widen (k := 3) (n := 440) (Nat.le_of_ble_eq_true rfl) (Nat.le_of_ble_eq_true rfl) ?_
  refine lv_dup hx hb dX2_init_24 rfl ?_
  refine k_ci (va_runIN (As := []) (rest := [.ref q_3, .ref h0]) ⟨hx, hb, hml, hown, hts⟩ (kk_X8_init_104 l D cA _ _ _ _ _ hKS.2.1.1 _ q_3 mq_3 tq_3 zq_3) (cIN hts mi_X8_init hN (show (RX2, 20, yX8_init, RX11) ∈ nwL by decide +kernel) rfl rfl ⟨Nat.le_of_ble_eq_true rfl, Nat.le_of_ble_eq_true rfl⟩) (pS hKS.1 hK hN) rfl rfl hl.1 rfl (lv_room (Nat.le_of_ble_eq_true rfl)) dX2_init_25 ⟨Nat.le_of_ble_eq_true rfl, Nat.le_of_ble_eq_true rfl⟩) hKS mq_3 nq_3 pq_3 hA hS tq_3 (fun L1 T1 r1 σ1 ρ1 H locs hKS mq_3 tq_3 hS => ?_)
  refine W.widen (k := 9) (n := 516) (Nat.le_of_ble_eq_true rfl) (Nat.le_of_ble_eq_true rfl) ?_
  refine k_pr hx hb hts hown hin hK hKS hS mq_3 tq_3 fq_2_2 rfl rfl rfl rfl (fun i h1 h2 => absurd h2 (by omega)) (fun _ h => by cases h) mw_2_166 dX2_init_28 (fun r1 H locs hKS _ _ hS => ?_)
  exact W.vret hx hb hr (fun t ht hW => ⟨⟨(), rfl, trivial, hKS.end hn_2 hf_2 ht⟩, hS.F ht⟩) hS.2.2 dX2_init_31
theorem mw_2_44 : (.methodLink RX5 1 objectInit : Cond) ∈ wsA := wsA_t (List.mem_append_right _ (List.mem_append_left _ (List.mem_of_getElem? (l := tables_1_2) (i := 44) rfl))) rfl
theorem mw_2_45 : (.classLink RX5 9 RX8 : Cond) ∈ wsA := wsA_t (List.mem_append_right _ (List.mem_append_left _ (List.mem_of_getElem? (l := tables_1_2) (i := 45) rfl))) rfl
theorem dX5_init_0 : decode cX5_init 0 = .ok (.aload_n 0, 1) := by decide +kernel
theorem dX5_init_1 : decode cX5_init 1 = .ok (.invokespecial 1, 3) := by decide +kernel
theorem dX5_init_4 : decode cX5_init 4 = .ok (.aload_n 0, 1) := by decide +kernel
theorem dX5_init_5 : decode cX5_init 5 = .ok (.bipush 20, 2) := by decide +kernel
theorem dX5_init_7 : decode cX5_init 7 = .ok (.anewarray 9, 3) := by decide +kernel
theorem dX5_init_10 : decode cX5_init 10 = .ok (.putfield 11, 3) := by decide +kernel
theorem dX5_init_13 : decode cX5_init 13 = .ok (.iconst 0, 1) := by decide +kernel
theorem dX5_init_14 : decode cX5_init 14 = .ok (.istore_n 1, 1) := by decide +kernel
theorem dX5_init_15 : decode cX5_init 15 = .ok (.iload_n 1, 1) := by decide +kernel
theorem dX5_init_16 : decode cX5_init 16 = .ok (.bipush 20, 2) := by decide +kernel
theorem dX5_init_18 : decode cX5_init 18 = .ok (.if_icmp .ge 22, 3) := by decide +kernel
theorem dX5_init_21 : decode cX5_init 21 = .ok (.aload_n 0, 1) := by decide +kernel
theorem dX5_init_22 : decode cX5_init 22 = .ok (.getfield 11, 3) := by decide +kernel
theorem dX5_init_25 : decode cX5_init 25 = .ok (.iload_n 1, 1) := by decide +kernel
theorem dX5_init_26 : decode cX5_init 26 = .ok (.new 9, 3) := by decide +kernel
theorem dX5_init_29 : decode cX5_init 29 = .ok (.dup, 1) := by decide +kernel
theorem dX5_init_30 : decode cX5_init 30 = .ok (.invokespecial 15, 3) := by decide +kernel
theorem dX5_init_33 : decode cX5_init 33 = .ok (.aastore, 1) := by decide +kernel
theorem dX5_init_34 : decode cX5_init 34 = .ok (.iinc 1 1, 3) := by decide +kernel
theorem dX5_init_37 : decode cX5_init 37 = .ok (.goto (-22), 3) := by decide +kernel
theorem dX5_init_40 : decode cX5_init 40 = .ok (.return_, 1) := by decide +kernel
theorem hn_5 : ∀ k t : Nat, fT 5 k = some t → k < 1 := fun k t h => match k, h with | 0, h => by decide | 1, h => nomatch h | 2, h => nomatch h | k + 3, h => nomatch h
theorem hf_5 : ∀ j : Nat, (fun _ => (0 : Int32)) j = ini 5 j := fun j => by unfold ini; rw [if_neg (fun h => absurd h.1 (by decide)), if_neg (fun h => absurd h.1 (by decide))]
set_option maxHeartbeats 4000000 in
set_option maxRecDepth 100000 in
theorem kk_X5_init_5 (l : Launch) (D : va_G) (cA : Nat → ClassId) (L : List Nat) (T : Nat → Nat) (r : Rg) (σ : Sg) (ρ : Lg) (hL : L.Nodup) (sz : Nat) (h0 : Nat) (mh0 : h0 ∈ L) (th0 : T h0 = 5) (z0 : ∀ j, σ h0 j = 0) : Met l yX5_init (.code yX5_init cX5_init 2 none :: wsA) ({ frames := 2, cells := 141, slots := 1700, locals := 60 }) (PR D cA L T r σ ρ sz [.ref h0]) (va_Qv (fun _ : Unit => True) (fun _ t => KQ D cA L T r σ h0 sz t) (dm L sz)) 141 1700 (dm L sz) := by
  refine Met.ofW (cc := cX5_init) (maxL := 2) (ret := none) (by decide) rfl ?_
  intro p e s m args below meth c s₁ B hml hv
  obtain ⟨rfl, hsz, hP, hK, hN⟩ := hv
  have hx := B.exec
  have hb := B.bytes
  have hr := B.returns
  have hts : ∀ w ∈ wsA, w.before _ s = true := fun w h => atoms_spec (ws := .code yX5_init cX5_init 2 none :: wsA) B.pre w (List.mem_cons_of_mem _ h)
  have hown : s.vm.findClass RX5 = some m.cls := findClass_of_methodNamed B.named
  have hin : meth.name = "<init>" := (name_of_methodNamed B.named B.method).1
  subst hsz
  have hKS := KS.begin (sz := s.heap.size) hP ⟨hL, fun a h => Or.inl h⟩ mh0 th0 z0
  have hA : ∀ q : Nat, s.heap.size ≤ q → dm L s.heap.size q := fun q h => Or.inr h
  have hS : va_S (dm L s.heap.size) s.heap s.heap [] := va_S.rf
  have hl := lv_entry ([.ref h0]) (n := 2) (Nat.le_of_ble_eq_true rfl)
  rw [lg_entry_eq]
  generalize (lg_sl ([.ref h0]) ++ List.replicate (2 - (lg_sl ([.ref h0])).length) Slot.unset).toArray = ls at hl ⊢
  have hl : lv_has ls 2 [(0, .ref h0)] := hl
  refine lv_aload_n hx hb dX5_init_0 rfl (lv_at hl 0 rfl) ?_
  refine W.objInit hx hb hown (hts _ mw_2_44) (hts _ mw_1_28) (hts _ mw_1_29) rfl (by rw [hml]; exact hl.1) rfl dX5_init_1 (Nat.le_of_ble_eq_true rfl) (Nat.le_of_ble_eq_true rfl) ?_
  refine W.eq (g2 := F0 m 4 ls []) rfl ?_
  refine lv_aload_n hx hb dX5_init_4 rfl (lv_at hl 0 rfl) ?_
  refine lv_bipush (v := 20) hx hb dX5_init_5 (by decide) ?_
  refine k_nq (t := 38) (ki := 4) hx hb hts hown mw_2_45 hN.2.1 hK rfl hKS hS hA rfl (by decide) rfl (by decide) (Nat.le_of_ble_eq_true rfl) (Nat.le_of_ble_eq_true rfl) dX5_init_7 (fun q_1 L1 T1 r1 σ1 ρ1 H hKS mq_1 tq_1 zq_1 nq_1 pq_1 hS => ?_)
  refine W.widen (k := 1) (n := 20) (Nat.le_of_ble_eq_true rfl) (Nat.le_of_ble_eq_true rfl) ?_
  refine k_pq hx hb hts hown hin hK hKS hS mq_1 tq_1 zq_1 nq_1 fq_5_0 rfl rfl rfl rfl (fun i h1 h2 => absurd h2 (by omega)) (fun _ h => by cases h) mw_2_48 dX5_init_10 (fun r1 H locs hKS hS => ?_)
  have hKS : KS D cA _ _ _ _ _ h0 [] [(0, q_1, 38, 0)] 5 1 _ _ _ _ _ _ _ := hKS
  refine lv_iconst (v := 0) hx hb dX5_init_13 (by decide) ?_
  refine lv_istore_n (lv' := [(1, .int 0), (0, .ref h0)]) hx hb dX5_init_14 rfl hl (by decide) rfl (fun ls hl => ?_)
  refine lv_iload_n hx hb dX5_init_15 rfl (lv_at hl 0 rfl) ?_
  refine lv_bipush (v := 20) hx hb dX5_init_16 (by decide) ?_
  refine lv_icmp_ge (tgt := 40) hx hb dX5_init_18 (by decide) (fun c9 => absurd c9 (by decide)) (fun _ => ?_)
  refine lv_aload_n hx hb dX5_init_21 rfl (lv_at hl 1 rfl) ?_
  refine k_gq hx hb hts hown hK hKS fq_5_0 mw_2_48 dX5_init_22 ?_
  refine lv_iload_n hx hb dX5_init_25 rfl (lv_at hl 0 rfl) ?_
  refine k_no (t := 102) (ci := 8) (TT := TX8) hx hb hts lay8 tyX8_ok hown mw_2_45 mw_1_75 mw_1_5 hK hKS hS hA rfl rfl (fun j hj => by rcases (show j = 0 ∨ j = 1 ∨ j = 2 ∨ j = 3 ∨ j = 4 ∨ j = 5 ∨ j = 6 ∨ j = 7 by omega) with rfl | rfl | rfl | rfl | rfl | rfl | rfl | rfl <;> rfl) (Nat.le_of_ble_eq_true rfl) (Nat.le_of_ble_eq_true rfl) dX5_init_26 (fun q_2 L1 T1 r1 σ1 ρ1 H hKS mq_2 tq_2 zq_2 nq_2 pq_2 hS => ?_)
  refine W.widen (k := 2) (n := 28) (Nat.le_of_ble_eq_true rfl) (Nat.le_of_ble_eq_true rfl) ?_
  refine lv_dup hx hb dX5_init_29 rfl ?_
  refine k_ci (va_runIN (As := []) (rest := [.ref q_2, .int 0, .ref q_1]) ⟨hx, hb, hml, hown, hts⟩ (kk_X8_init_102 l D cA _ _ _ _ _ hKS.2.1.1 _ q_2 mq_2 tq_2 zq_2) (cIN hts mi_X8_init hN (show (RX5, 15, yX8_init, RX11) ∈ nwL by decide +kernel) rfl rfl ⟨Nat.le_of_ble_eq_true rfl, Nat.le_of_ble_eq_true rfl⟩) (pS hKS.1 hK hN) rfl rfl hl.1 rfl (lv_room (Nat.le_of_ble_eq_true rfl)) dX5_init_30 ⟨Nat.le_of_ble_eq_true rfl, Nat.le_of_ble_eq_true rfl⟩) hKS mq_2 nq_2 pq_2 hA hS tq_2 (fun L1 T1 r1 σ1 ρ1 H locs hKS mq_2 tq_2 hS => ?_)
  refine W.widen (k := 8) (n := 104) (Nat.le_of_ble_eq_true rfl) (Nat.le_of_ble_eq_true rfl) ?_
  refine k_aa (rr := (RX8, TX8, 8)) hx hb hK hKS hS aq_38 rfl mq_2 tq_2 rfl rfl (i_in (by decide) (by decide)) (by decide) (fun _ h => by cases h) dX5_init_33 (fun r1 H locs hKS hS => ?_)
  refine lv_iinc (v := 1) (lv' := [(1, .int 1), (0, .ref h0)]) hx hb dX5_init_34 hl (k := 0) rfl (by decide) (by decide) rfl (fun ls hl => ?_)
  refine lv_goto (tgt := 15) hx hb dX5_init_37 (by decide) ?_
  refine lv_iload_n hx hb dX5_init_15 rfl (lv_at hl 0 rfl) ?_
  refine lv_bipush (v := 20) hx hb dX5_init_16 (by decide) ?_
  refine lv_icmp_ge (tgt := 40) hx hb dX5_init_18 (by decide) (fun c9 => absurd c9 (by decide)) (fun _ => ?_)
  refine lv_aload_n hx hb dX5_init_21 rfl (lv_at hl 1 rfl) ?_
  refine k_gq hx hb hts hown hK hKS fq_5_0 mw_2_48 dX5_init_22 ?_
  refine lv_iload_n hx hb dX5_init_25 rfl (lv_at hl 0 rfl) ?_
  refine k_no (t := 102) (ci := 8) (TT := TX8) hx hb hts lay8 tyX8_ok hown mw_2_45 mw_1_75 mw_1_5 hK hKS hS hA rfl rfl (fun j hj => by rcases (show j = 0 ∨ j = 1 ∨ j = 2 ∨ j = 3 ∨ j = 4 ∨ j = 5 ∨ j = 6 ∨ j = 7 by omega) with rfl | rfl | rfl | rfl | rfl | rfl | rfl | rfl <;> rfl) (Nat.le_of_ble_eq_true rfl) (Nat.le_of_ble_eq_true rfl) dX5_init_26 (fun q_3 L1 T1 r1 σ1 ρ1 H hKS mq_3 tq_3 zq_3 nq_3 pq_3 hS => ?_)
  refine W.widen (k := 9) (n := 112) (Nat.le_of_ble_eq_true rfl) (Nat.le_of_ble_eq_true rfl) ?_
  refine lv_dup hx hb dX5_init_29 rfl ?_
  refine k_ci (va_runIN (As := []) (rest := [.ref q_3, .int 1, .ref q_1]) ⟨hx, hb, hml, hown, hts⟩ (kk_X8_init_102 l D cA _ _ _ _ _ hKS.2.1.1 _ q_3 mq_3 tq_3 zq_3) (cIN hts mi_X8_init hN (show (RX5, 15, yX8_init, RX11) ∈ nwL by decide +kernel) rfl rfl ⟨Nat.le_of_ble_eq_true rfl, Nat.le_of_ble_eq_true rfl⟩) (pS hKS.1 hK hN) rfl rfl hl.1 rfl (lv_room (Nat.le_of_ble_eq_true rfl)) dX5_init_30 ⟨Nat.le_of_ble_eq_true rfl, Nat.le_of_ble_eq_true rfl⟩) hKS mq_3 nq_3 pq_3 hA hS tq_3 (fun L1 T1 r1 σ1 ρ1 H locs hKS mq_3 tq_3 hS => ?_)
  refine W.widen (k := 15) (n := 188) (Nat.le_of_ble_eq_true rfl) (Nat.le_of_ble_eq_true rfl) ?_
  refine k_aa (rr := (RX8, TX8, 8)) hx hb hK hKS hS aq_38 rfl mq_3 tq_3 rfl rfl (i_in (by decide) (by decide)) (by decide) (fun _ h => by cases h) dX5_init_33 (fun r1 H locs hKS hS => ?_)
  refine lv_iinc (v := 2) (lv' := [(1, .int 2), (0, .ref h0)]) hx hb dX5_init_34 hl (k := 0) rfl (by decide) (by decide) rfl (fun ls hl => ?_)
  refine lv_goto (tgt := 15) hx hb dX5_init_37 (by decide) ?_
  refine lv_iload_n hx hb dX5_init_15 rfl (lv_at hl 0 rfl) ?_
  refine lv_bipush (v := 20) hx hb dX5_init_16 (by decide) ?_
  refine lv_icmp_ge (tgt := 40) hx hb dX5_init_18 (by decide) (fun c9 => absurd c9 (by decide)) (fun _ => ?_)
  refine lv_aload_n hx hb dX5_init_21 rfl (lv_at hl 1 rfl) ?_
  refine k_gq hx hb hts hown hK hKS fq_5_0 mw_2_48 dX5_init_22 ?_
  refine lv_iload_n hx hb dX5_init_25 rfl (lv_at hl 0 rfl) ?_
  refine k_no (t := 102) (ci := 8) (TT := TX8) hx hb hts lay8 tyX8_ok hown mw_2_45 mw_1_75 mw_1_5 hK hKS hS hA rfl rfl (fun j hj => by rcases (show j = 0 ∨ j = 1 ∨ j = 2 ∨ j = 3 ∨ j = 4 ∨ j = 5 ∨ j = 6 ∨ j = 7 by omega) with rfl | rfl | rfl | rfl | rfl | rfl | rfl | rfl <;> rfl) (Nat.le_of_ble_eq_true rfl) (Nat.le_of_ble_eq_true rfl) dX5_init_26 (fun q_4 L1 T1 r1 σ1 ρ1 H hKS mq_4 tq_4 zq_4 nq_4 pq_4 hS => ?_)
  refine W.widen (k := 16) (n := 196) (Nat.le_of_ble_eq_true rfl) (Nat.le_of_ble_eq_true rfl) ?_
  refine lv_dup hx hb dX5_init_29 rfl ?_
  refine k_ci (va_runIN (As := []) (rest := [.ref q_4, .int 2, .ref q_1]) ⟨hx, hb, hml, hown, hts⟩ (kk_X8_init_102 l D cA _ _ _ _ _ hKS.2.1.1 _ q_4 mq_4 tq_4 zq_4) (cIN hts mi_X8_init hN (show (RX5, 15, yX8_init, RX11) ∈ nwL by decide +kernel) rfl rfl ⟨Nat.le_of_ble_eq_true rfl, Nat.le_of_ble_eq_true rfl⟩) (pS hKS.1 hK hN) rfl rfl hl.1 rfl (lv_room (Nat.le_of_ble_eq_true rfl)) dX5_init_30 ⟨Nat.le_of_ble_eq_true rfl, Nat.le_of_ble_eq_true rfl⟩) hKS mq_4 nq_4 pq_4 hA hS tq_4 (fun L1 T1 r1 σ1 ρ1 H locs hKS mq_4 tq_4 hS => ?_)
  refine W.widen (k := 22) (n := 272) (Nat.le_of_ble_eq_true rfl) (Nat.le_of_ble_eq_true rfl) ?_
  refine k_aa (rr := (RX8, TX8, 8)) hx hb hK hKS hS aq_38 rfl mq_4 tq_4 rfl rfl (i_in (by decide) (by decide)) (by decide) (fun _ h => by cases h) dX5_init_33 (fun r1 H locs hKS hS => ?_)
  refine lv_iinc (v := 3) (lv' := [(1, .int 3), (0, .ref h0)]) hx hb dX5_init_34 hl (k := 0) rfl (by decide) (by decide) rfl (fun ls hl => ?_)
  refine lv_goto (tgt := 15) hx hb dX5_init_37 (by decide) ?_
  refine lv_iload_n hx hb dX5_init_15 rfl (lv_at hl 0 rfl) ?_
  refine lv_bipush (v := 20) hx hb dX5_init_16 (by decide) ?_
  refine lv_icmp_ge (tgt := 40) hx hb dX5_init_18 (by decide) (fun c9 => absurd c9 (by decide)) (fun _ => ?_)
  refine lv_aload_n hx hb dX5_init_21 rfl (lv_at hl 1 rfl) ?_
  refine k_gq hx hb hts hown hK hKS fq_5_0 mw_2_48 dX5_init_22 ?_
  refine lv_iload_n hx hb dX5_init_25 rfl (lv_at hl 0 rfl) ?_
  refine k_no (t := 102) (ci := 8) (TT := TX8) hx hb hts lay8 tyX8_ok hown mw_2_45 mw_1_75 mw_1_5 hK hKS hS hA rfl rfl (fun j hj => by rcases (show j = 0 ∨ j = 1 ∨ j = 2 ∨ j = 3 ∨ j = 4 ∨ j = 5 ∨ j = 6 ∨ j = 7 by omega) with rfl | rfl | rfl | rfl | rfl | rfl | rfl | rfl <;> rfl) (Nat.le_of_ble_eq_true rfl) (Nat.le_of_ble_eq_true rfl) dX5_init_26 (fun q_5 L1 T1 r1 σ1 ρ1 H hKS mq_5 tq_5 zq_5 nq_5 pq_5 hS => ?_)
  refine W.widen (k := 23) (n := 280) (Nat.le_of_ble_eq_true rfl) (Nat.le_of_ble_eq_true rfl) ?_
  refine lv_dup hx hb dX5_init_29 rfl ?_
  refine k_ci (va_runIN (As := []) (rest := [.ref q_5, .int 3, .ref q_1]) ⟨hx, hb, hml, hown, hts⟩ (kk_X8_init_102 l D cA _ _ _ _ _ hKS.2.1.1 _ q_5 mq_5 tq_5 zq_5) (cIN hts mi_X8_init hN (show (RX5, 15, yX8_init, RX11) ∈ nwL by decide +kernel) rfl rfl ⟨Nat.le_of_ble_eq_true rfl, Nat.le_of_ble_eq_true rfl⟩) (pS hKS.1 hK hN) rfl rfl hl.1 rfl (lv_room (Nat.le_of_ble_eq_true rfl)) dX5_init_30 ⟨Nat.le_of_ble_eq_true rfl, Nat.le_of_ble_eq_true rfl⟩) hKS mq_5 nq_5 pq_5 hA hS tq_5 (fun L1 T1 r1 σ1 ρ1 H locs hKS mq_5 tq_5 hS => ?_)
  refine W.widen (k := 29) (n := 356) (Nat.le_of_ble_eq_true rfl) (Nat.le_of_ble_eq_true rfl) ?_
  refine k_aa (rr := (RX8, TX8, 8)) hx hb hK hKS hS aq_38 rfl mq_5 tq_5 rfl rfl (i_in (by decide) (by decide)) (by decide) (fun _ h => by cases h) dX5_init_33 (fun r1 H locs hKS hS => ?_)
  refine lv_iinc (v := 4) (lv' := [(1, .int 4), (0, .ref h0)]) hx hb dX5_init_34 hl (k := 0) rfl (by decide) (by decide) rfl (fun ls hl => ?_)
  refine lv_goto (tgt := 15) hx hb dX5_init_37 (by decide) ?_
  refine lv_iload_n hx hb dX5_init_15 rfl (lv_at hl 0 rfl) ?_
  refine lv_bipush (v := 20) hx hb dX5_init_16 (by decide) ?_
  refine lv_icmp_ge (tgt := 40) hx hb dX5_init_18 (by decide) (fun c9 => absurd c9 (by decide)) (fun _ => ?_)
  refine lv_aload_n hx hb dX5_init_21 rfl (lv_at hl 1 rfl) ?_
  refine k_gq hx hb hts hown hK hKS fq_5_0 mw_2_48 dX5_init_22 ?_
  refine lv_iload_n hx hb dX5_init_25 rfl (lv_at hl 0 rfl) ?_
  refine k_no (t := 102) (ci := 8) (TT := TX8) hx hb hts lay8 tyX8_ok hown mw_2_45 mw_1_75 mw_1_5 hK hKS hS hA rfl rfl (fun j hj => by rcases (show j = 0 ∨ j = 1 ∨ j = 2 ∨ j = 3 ∨ j = 4 ∨ j = 5 ∨ j = 6 ∨ j = 7 by omega) with rfl | rfl | rfl | rfl | rfl | rfl | rfl | rfl <;> rfl) (Nat.le_of_ble_eq_true rfl) (Nat.le_of_ble_eq_true rfl) dX5_init_26 (fun q_6 L1 T1 r1 σ1 ρ1 H hKS mq_6 tq_6 zq_6 nq_6 pq_6 hS => ?_)
  refine W.widen (k := 30) (n := 364) (Nat.le_of_ble_eq_true rfl) (Nat.le_of_ble_eq_true rfl) ?_
  refine lv_dup hx hb dX5_init_29 rfl ?_
  refine k_ci (va_runIN (As := []) (rest := [.ref q_6, .int 4, .ref q_1]) ⟨hx, hb, hml, hown, hts⟩ (kk_X8_init_102 l D cA _ _ _ _ _ hKS.2.1.1 _ q_6 mq_6 tq_6 zq_6) (cIN hts mi_X8_init hN (show (RX5, 15, yX8_init, RX11) ∈ nwL by decide +kernel) rfl rfl ⟨Nat.le_of_ble_eq_true rfl, Nat.le_of_ble_eq_true rfl⟩) (pS hKS.1 hK hN) rfl rfl hl.1 rfl (lv_room (Nat.le_of_ble_eq_true rfl)) dX5_init_30 ⟨Nat.le_of_ble_eq_true rfl, Nat.le_of_ble_eq_true rfl⟩) hKS mq_6 nq_6 pq_6 hA hS tq_6 (fun L1 T1 r1 σ1 ρ1 H locs hKS mq_6 tq_6 hS => ?_)
  refine W.widen (k := 36) (n := 440) (Nat.le_of_ble_eq_true rfl) (Nat.le_of_ble_eq_true rfl) ?_
  refine k_aa (rr := (RX8, TX8, 8)) hx hb hK hKS hS aq_38 rfl mq_6 tq_6 rfl rfl (i_in (by decide) (by decide)) (by decide) (fun _ h => by cases h) dX5_init_33 (fun r1 H locs hKS hS => ?_)
  refine lv_iinc (v := 5) (lv' := [(1, .int 5), (0, .ref h0)]) hx hb dX5_init_34 hl (k := 0) rfl (by decide) (by decide) rfl (fun ls hl => ?_)
  refine lv_goto (tgt := 15) hx hb dX5_init_37 (by decide) ?_
  refine lv_iload_n hx hb dX5_init_15 rfl (lv_at hl 0 rfl) ?_
  refine lv_bipush (v := 20) hx hb dX5_init_16 (by decide) ?_
  refine lv_icmp_ge (tgt := 40) hx hb dX5_init_18 (by decide) (fun c9 => absurd c9 (by decide)) (fun _ => ?_)
  refine lv_aload_n hx hb dX5_init_21 rfl (lv_at hl 1 rfl) ?_
  refine k_gq hx hb hts hown hK hKS fq_5_0 mw_2_48 dX5_init_22 ?_
  refine lv_iload_n hx hb dX5_init_25 rfl (lv_at hl 0 rfl) ?_
  refine k_no (t := 102) (ci := 8) (TT := TX8) hx hb hts lay8 tyX8_ok hown mw_2_45 mw_1_75 mw_1_5 hK hKS hS hA rfl rfl (fun j hj => by rcases (show j = 0 ∨ j = 1 ∨ j = 2 ∨ j = 3 ∨ j = 4 ∨ j = 5 ∨ j = 6 ∨ j = 7 by omega) with rfl | rfl | rfl | rfl | rfl | rfl | rfl | rfl <;> rfl) (Nat.le_of_ble_eq_true rfl) (Nat.le_of_ble_eq_true rfl) dX5_init_26 (fun q_7 L1 T1 r1 σ1 ρ1 H hKS mq_7 tq_7 zq_7 nq_7 pq_7 hS => ?_)
  refine W.widen (k := 37) (n := 448) (Nat.le_of_ble_eq_true rfl) (Nat.le_of_ble_eq_true rfl) ?_
  refine lv_dup hx hb dX5_init_29 rfl ?_
  refine k_ci (va_runIN (As := []) (rest := [.ref q_7, .int 5, .ref q_1]) ⟨hx, hb, hml, hown, hts⟩ (kk_X8_init_102 l D cA _ _ _ _ _ hKS.2.1.1 _ q_7 mq_7 tq_7 zq_7) (cIN hts mi_X8_init hN (show (RX5, 15, yX8_init, RX11) ∈ nwL by decide +kernel) rfl rfl ⟨Nat.le_of_ble_eq_true rfl, Nat.le_of_ble_eq_true rfl⟩) (pS hKS.1 hK hN) rfl rfl hl.1 rfl (lv_room (Nat.le_of_ble_eq_true rfl)) dX5_init_30 ⟨Nat.le_of_ble_eq_true rfl, Nat.le_of_ble_eq_true rfl⟩) hKS mq_7 nq_7 pq_7 hA hS tq_7 (fun L1 T1 r1 σ1 ρ1 H locs hKS mq_7 tq_7 hS => ?_)
  refine W.widen (k := 43) (n := 524) (Nat.le_of_ble_eq_true rfl) (Nat.le_of_ble_eq_true rfl) ?_
  refine k_aa (rr := (RX8, TX8, 8)) hx hb hK hKS hS aq_38 rfl mq_7 tq_7 rfl rfl (i_in (by decide) (by decide)) (by decide) (fun _ h => by cases h) dX5_init_33 (fun r1 H locs hKS hS => ?_)
  refine lv_iinc (v := 6) (lv' := [(1, .int 6), (0, .ref h0)]) hx hb dX5_init_34 hl (k := 0) rfl (by decide) (by decide) rfl (fun ls hl => ?_)
  refine lv_goto (tgt := 15) hx hb dX5_init_37 (by decide) ?_
  refine lv_iload_n hx hb dX5_init_15 rfl (lv_at hl 0 rfl) ?_
  refine lv_bipush (v := 20) hx hb dX5_init_16 (by decide) ?_
  refine lv_icmp_ge (tgt := 40) hx hb dX5_init_18 (by decide) (fun c9 => absurd c9 (by decide)) (fun _ => ?_)
  refine lv_aload_n hx hb dX5_init_21 rfl (lv_at hl 1 rfl) ?_
  refine k_gq hx hb hts hown hK hKS fq_5_0 mw_2_48 dX5_init_22 ?_
  refine lv_iload_n hx hb dX5_init_25 rfl (lv_at hl 0 rfl) ?_
  refine k_no (t := 102) (ci := 8) (TT := TX8) hx hb hts lay8 tyX8_ok hown mw_2_45 mw_1_75 mw_1_5 hK hKS hS hA rfl rfl (fun j hj => by rcases (show j = 0 ∨ j = 1 ∨ j = 2 ∨ j = 3 ∨ j = 4 ∨ j = 5 ∨ j = 6 ∨ j = 7 by omega) with rfl | rfl | rfl | rfl | rfl | rfl | rfl | rfl <;> rfl) (Nat.le_of_ble_eq_true rfl) (Nat.le_of_ble_eq_true rfl) dX5_init_26 (fun q_8 L1 T1 r1 σ1 ρ1 H hKS mq_8 tq_8 zq_8 nq_8 pq_8 hS => ?_)
  refine W.widen (k := 44) (n := 532) (Nat.le_of_ble_eq_true rfl) (Nat.le_of_ble_eq_true rfl) ?_
  refine lv_dup hx hb dX5_init_29 rfl ?_
  refine k_ci (va_runIN (As := []) (rest := [.ref q_8, .int 6, .ref q_1]) ⟨hx, hb, hml, hown, hts⟩ (kk_X8_init_102 l D cA _ _ _ _ _ hKS.2.1.1 _ q_8 mq_8 tq_8 zq_8) (cIN hts mi_X8_init hN (show (RX5, 15, yX8_init, RX11) ∈ nwL by decide +kernel) rfl rfl ⟨Nat.le_of_ble_eq_true rfl, Nat.le_of_ble_eq_true rfl⟩) (pS hKS.1 hK hN) rfl rfl hl.1 rfl (lv_room (Nat.le_of_ble_eq_true rfl)) dX5_init_30 ⟨Nat.le_of_ble_eq_true rfl, Nat.le_of_ble_eq_true rfl⟩) hKS mq_8 nq_8 pq_8 hA hS tq_8 (fun L1 T1 r1 σ1 ρ1 H locs hKS mq_8 tq_8 hS => ?_)
  refine W.widen (k := 50) (n := 608) (Nat.le_of_ble_eq_true rfl) (Nat.le_of_ble_eq_true rfl) ?_
  refine k_aa (rr := (RX8, TX8, 8)) hx hb hK hKS hS aq_38 rfl mq_8 tq_8 rfl rfl (i_in (by decide) (by decide)) (by decide) (fun _ h => by cases h) dX5_init_33 (fun r1 H locs hKS hS => ?_)
  refine lv_iinc (v := 7) (lv' := [(1, .int 7), (0, .ref h0)]) hx hb dX5_init_34 hl (k := 0) rfl (by decide) (by decide) rfl (fun ls hl => ?_)
  refine lv_goto (tgt := 15) hx hb dX5_init_37 (by decide) ?_
  refine lv_iload_n hx hb dX5_init_15 rfl (lv_at hl 0 rfl) ?_
  refine lv_bipush (v := 20) hx hb dX5_init_16 (by decide) ?_
  refine lv_icmp_ge (tgt := 40) hx hb dX5_init_18 (by decide) (fun c9 => absurd c9 (by decide)) (fun _ => ?_)
  refine lv_aload_n hx hb dX5_init_21 rfl (lv_at hl 1 rfl) ?_
  refine k_gq hx hb hts hown hK hKS fq_5_0 mw_2_48 dX5_init_22 ?_
  refine lv_iload_n hx hb dX5_init_25 rfl (lv_at hl 0 rfl) ?_
  refine k_no (t := 102) (ci := 8) (TT := TX8) hx hb hts lay8 tyX8_ok hown mw_2_45 mw_1_75 mw_1_5 hK hKS hS hA rfl rfl (fun j hj => by rcases (show j = 0 ∨ j = 1 ∨ j = 2 ∨ j = 3 ∨ j = 4 ∨ j = 5 ∨ j = 6 ∨ j = 7 by omega) with rfl | rfl | rfl | rfl | rfl | rfl | rfl | rfl <;> rfl) (Nat.le_of_ble_eq_true rfl) (Nat.le_of_ble_eq_true rfl) dX5_init_26 (fun q_9 L1 T1 r1 σ1 ρ1 H hKS mq_9 tq_9 zq_9 nq_9 pq_9 hS => ?_)
  refine W.widen (k := 51) (n := 616) (Nat.le_of_ble_eq_true rfl) (Nat.le_of_ble_eq_true rfl) ?_
  refine lv_dup hx hb dX5_init_29 rfl ?_
  refine k_ci (va_runIN (As := []) (rest := [.ref q_9, .int 7, .ref q_1]) ⟨hx, hb, hml, hown, hts⟩ (kk_X8_init_102 l D cA _ _ _ _ _ hKS.2.1.1 _ q_9 mq_9 tq_9 zq_9) (cIN hts mi_X8_init hN (show (RX5, 15, yX8_init, RX11) ∈ nwL by decide +kernel) rfl rfl ⟨Nat.le_of_ble_eq_true rfl, Nat.le_of_ble_eq_true rfl⟩) (pS hKS.1 hK hN) rfl rfl hl.1 rfl (lv_room (Nat.le_of_ble_eq_true rfl)) dX5_init_30 ⟨Nat.le_of_ble_eq_true rfl, Nat.le_of_ble_eq_true rfl⟩) hKS mq_9 nq_9 pq_9 hA hS tq_9 (fun L1 T1 r1 σ1 ρ1 H locs hKS mq_9 tq_9 hS => ?_)
  refine W.widen (k := 57) (n := 692) (Nat.le_of_ble_eq_true rfl) (Nat.le_of_ble_eq_true rfl) ?_
  refine k_aa (rr := (RX8, TX8, 8)) hx hb hK hKS hS aq_38 rfl mq_9 tq_9 rfl rfl (i_in (by decide) (by decide)) (by decide) (fun _ h => by cases h) dX5_init_33 (fun r1 H locs hKS hS => ?_)
  refine lv_iinc (v := 8) (lv' := [(1, .int 8), (0, .ref h0)]) hx hb dX5_init_34 hl (k := 0) rfl (by decide) (by decide) rfl (fun ls hl => ?_)
  refine lv_goto (tgt := 15) hx hb dX5_init_37 (by decide) ?_
  refine lv_iload_n hx hb dX5_init_15 rfl (lv_at hl 0 rfl) ?_
  refine lv_bipush (v := 20) hx hb dX5_init_16 (by decide) ?_
  refine lv_icmp_ge (tgt := 40) hx hb dX5_init_18 (by decide) (fun c9 => absurd c9 (by decide)) (fun _ => ?_)
  refine lv_aload_n hx hb dX5_init_21 rfl (lv_at hl 1 rfl) ?_
  refine k_gq hx hb hts hown hK hKS fq_5_0 mw_2_48 dX5_init_22 ?_
  refine lv_iload_n hx hb dX5_init_25 rfl (lv_at hl 0 rfl) ?_
  refine k_no (t := 102) (ci := 8) (TT := TX8) hx hb hts lay8 tyX8_ok hown mw_2_45 mw_1_75 mw_1_5 hK hKS hS hA rfl rfl (fun j hj => by rcases (show j = 0 ∨ j = 1 ∨ j = 2 ∨ j = 3 ∨ j = 4 ∨ j = 5 ∨ j = 6 ∨ j = 7 by omega) with rfl | rfl | rfl | rfl | rfl | rfl | rfl | rfl <;> rfl) (Nat.le_of_ble_eq_true rfl) (Nat.le_of_ble_eq_true rfl) dX5_init_26 (fun q_10 L1 T1 r1 σ1 ρ1 H hKS mq_10 tq_10 zq_10 nq_10 pq_10 hS => ?_)
  refine W.widen (k := 58) (n := 700) (Nat.le_of_ble_eq_true rfl) (Nat.le_of_ble_eq_true rfl) ?_
  refine lv_dup hx hb dX5_init_29 rfl ?_
  refine k_ci (va_runIN (As := []) (rest := [.ref q_10, .int 8, .ref q_1]) ⟨hx, hb, hml, hown, hts⟩ (kk_X8_init_102 l D cA _ _ _ _ _ hKS.2.1.1 _ q_10 mq_10 tq_10 zq_10) (cIN hts mi_X8_init hN (show (RX5, 15, yX8_init, RX11) ∈ nwL by decide +kernel) rfl rfl ⟨Nat.le_of_ble_eq_true rfl, Nat.le_of_ble_eq_true rfl⟩) (pS hKS.1 hK hN) rfl rfl hl.1 rfl (lv_room (Nat.le_of_ble_eq_true rfl)) dX5_init_30 ⟨Nat.le_of_ble_eq_true rfl, Nat.le_of_ble_eq_true rfl⟩) hKS mq_10 nq_10 pq_10 hA hS tq_10 (fun L1 T1 r1 σ1 ρ1 H locs hKS mq_10 tq_10 hS => ?_)
  refine W.widen (k := 64) (n := 776) (Nat.le_of_ble_eq_true rfl) (Nat.le_of_ble_eq_true rfl) ?_
  refine k_aa (rr := (RX8, TX8, 8)) hx hb hK hKS hS aq_38 rfl mq_10 tq_10 rfl rfl (i_in (by decide) (by decide)) (by decide) (fun _ h => by cases h) dX5_init_33 (fun r1 H locs hKS hS => ?_)
  refine lv_iinc (v := 9) (lv' := [(1, .int 9), (0, .ref h0)]) hx hb dX5_init_34 hl (k := 0) rfl (by decide) (by decide) rfl (fun ls hl => ?_)
  refine lv_goto (tgt := 15) hx hb dX5_init_37 (by decide) ?_
  refine lv_iload_n hx hb dX5_init_15 rfl (lv_at hl 0 rfl) ?_
  refine lv_bipush (v := 20) hx hb dX5_init_16 (by decide) ?_
  refine lv_icmp_ge (tgt := 40) hx hb dX5_init_18 (by decide) (fun c9 => absurd c9 (by decide)) (fun _ => ?_)
  refine lv_aload_n hx hb dX5_init_21 rfl (lv_at hl 1 rfl) ?_
  refine k_gq hx hb hts hown hK hKS fq_5_0 mw_2_48 dX5_init_22 ?_
  refine lv_iload_n hx hb dX5_init_25 rfl (lv_at hl 0 rfl) ?_
  refine k_no (t := 102) (ci := 8) (TT := TX8) hx hb hts lay8 tyX8_ok hown mw_2_45 mw_1_75 mw_1_5 hK hKS hS hA rfl rfl (fun j hj => by rcases (show j = 0 ∨ j = 1 ∨ j = 2 ∨ j = 3 ∨ j = 4 ∨ j = 5 ∨ j = 6 ∨ j = 7 by omega) with rfl | rfl | rfl | rfl | rfl | rfl | rfl | rfl <;> rfl) (Nat.le_of_ble_eq_true rfl) (Nat.le_of_ble_eq_true rfl) dX5_init_26 (fun q_11 L1 T1 r1 σ1 ρ1 H hKS mq_11 tq_11 zq_11 nq_11 pq_11 hS => ?_)
  refine W.widen (k := 65) (n := 784) (Nat.le_of_ble_eq_true rfl) (Nat.le_of_ble_eq_true rfl) ?_
  refine lv_dup hx hb dX5_init_29 rfl ?_
  refine k_ci (va_runIN (As := []) (rest := [.ref q_11, .int 9, .ref q_1]) ⟨hx, hb, hml, hown, hts⟩ (kk_X8_init_102 l D cA _ _ _ _ _ hKS.2.1.1 _ q_11 mq_11 tq_11 zq_11) (cIN hts mi_X8_init hN (show (RX5, 15, yX8_init, RX11) ∈ nwL by decide +kernel) rfl rfl ⟨Nat.le_of_ble_eq_true rfl, Nat.le_of_ble_eq_true rfl⟩) (pS hKS.1 hK hN) rfl rfl hl.1 rfl (lv_room (Nat.le_of_ble_eq_true rfl)) dX5_init_30 ⟨Nat.le_of_ble_eq_true rfl, Nat.le_of_ble_eq_true rfl⟩) hKS mq_11 nq_11 pq_11 hA hS tq_11 (fun L1 T1 r1 σ1 ρ1 H locs hKS mq_11 tq_11 hS => ?_)
  refine W.widen (k := 71) (n := 860) (Nat.le_of_ble_eq_true rfl) (Nat.le_of_ble_eq_true rfl) ?_
  refine k_aa (rr := (RX8, TX8, 8)) hx hb hK hKS hS aq_38 rfl mq_11 tq_11 rfl rfl (i_in (by decide) (by decide)) (by decide) (fun _ h => by cases h) dX5_init_33 (fun r1 H locs hKS hS => ?_)
  refine lv_iinc (v := 10) (lv' := [(1, .int 10), (0, .ref h0)]) hx hb dX5_init_34 hl (k := 0) rfl (by decide) (by decide) rfl (fun ls hl => ?_)
  refine lv_goto (tgt := 15) hx hb dX5_init_37 (by decide) ?_
  refine lv_iload_n hx hb dX5_init_15 rfl (lv_at hl 0 rfl) ?_
  refine lv_bipush (v := 20) hx hb dX5_init_16 (by decide) ?_
  refine lv_icmp_ge (tgt := 40) hx hb dX5_init_18 (by decide) (fun c9 => absurd c9 (by decide)) (fun _ => ?_)
  refine lv_aload_n hx hb dX5_init_21 rfl (lv_at hl 1 rfl) ?_
  refine k_gq hx hb hts hown hK hKS fq_5_0 mw_2_48 dX5_init_22 ?_
  refine lv_iload_n hx hb dX5_init_25 rfl (lv_at hl 0 rfl) ?_
  refine k_no (t := 102) (ci := 8) (TT := TX8) hx hb hts lay8 tyX8_ok hown mw_2_45 mw_1_75 mw_1_5 hK hKS hS hA rfl rfl (fun j hj => by rcases (show j = 0 ∨ j = 1 ∨ j = 2 ∨ j = 3 ∨ j = 4 ∨ j = 5 ∨ j = 6 ∨ j = 7 by omega) with rfl | rfl | rfl | rfl | rfl | rfl | rfl | rfl <;> rfl) (Nat.le_of_ble_eq_true rfl) (Nat.le_of_ble_eq_true rfl) dX5_init_26 (fun q_12 L1 T1 r1 σ1 ρ1 H hKS mq_12 tq_12 zq_12 nq_12 pq_12 hS => ?_)
  refine W.widen (k := 72) (n := 868) (Nat.le_of_ble_eq_true rfl) (Nat.le_of_ble_eq_true rfl) ?_
  refine lv_dup hx hb dX5_init_29 rfl ?_
  refine k_ci (va_runIN (As := []) (rest := [.ref q_12, .int 10, .ref q_1]) ⟨hx, hb, hml, hown, hts⟩ (kk_X8_init_102 l D cA _ _ _ _ _ hKS.2.1.1 _ q_12 mq_12 tq_12 zq_12) (cIN hts mi_X8_init hN (show (RX5, 15, yX8_init, RX11) ∈ nwL by decide +kernel) rfl rfl ⟨Nat.le_of_ble_eq_true rfl, Nat.le_of_ble_eq_true rfl⟩) (pS hKS.1 hK hN) rfl rfl hl.1 rfl (lv_room (Nat.le_of_ble_eq_true rfl)) dX5_init_30 ⟨Nat.le_of_ble_eq_true rfl, Nat.le_of_ble_eq_true rfl⟩) hKS mq_12 nq_12 pq_12 hA hS tq_12 (fun L1 T1 r1 σ1 ρ1 H locs hKS mq_12 tq_12 hS => ?_)
  refine W.widen (k := 78) (n := 944) (Nat.le_of_ble_eq_true rfl) (Nat.le_of_ble_eq_true rfl) ?_
  refine k_aa (rr := (RX8, TX8, 8)) hx hb hK hKS hS aq_38 rfl mq_12 tq_12 rfl rfl (i_in (by decide) (by decide)) (by decide) (fun _ h => by cases h) dX5_init_33 (fun r1 H locs hKS hS => ?_)
  refine lv_iinc (v := 11) (lv' := [(1, .int 11), (0, .ref h0)]) hx hb dX5_init_34 hl (k := 0) rfl (by decide) (by decide) rfl (fun ls hl => ?_)
  refine lv_goto (tgt := 15) hx hb dX5_init_37 (by decide) ?_
  refine lv_iload_n hx hb dX5_init_15 rfl (lv_at hl 0 rfl) ?_
  refine lv_bipush (v := 20) hx hb dX5_init_16 (by decide) ?_
  refine lv_icmp_ge (tgt := 40) hx hb dX5_init_18 (by decide) (fun c9 => absurd c9 (by decide)) (fun _ => ?_)
  refine lv_aload_n hx hb dX5_init_21 rfl (lv_at hl 1 rfl) ?_
  refine k_gq hx hb hts hown hK hKS fq_5_0 mw_2_48 dX5_init_22 ?_
  refine lv_iload_n hx hb dX5_init_25 rfl (lv_at hl 0 rfl) ?_
  refine k_no (t := 102) (ci := 8) (TT := TX8) hx hb hts lay8 tyX8_ok hown mw_2_45 mw_1_75 mw_1_5 hK hKS hS hA rfl rfl (fun j hj => by rcases (show j = 0 ∨ j = 1 ∨ j = 2 ∨ j = 3 ∨ j = 4 ∨ j = 5 ∨ j = 6 ∨ j = 7 by omega) with rfl | rfl | rfl | rfl | rfl | rfl | rfl | rfl <;> rfl) (Nat.le_of_ble_eq_true rfl) (Nat.le_of_ble_eq_true rfl) dX5_init_26 (fun q_13 L1 T1 r1 σ1 ρ1 H hKS mq_13 tq_13 zq_13 nq_13 pq_13 hS => ?_)
  refine W.widen (k := 79) (n := 952) (Nat.le_of_ble_eq_true rfl) (Nat.le_of_ble_eq_true rfl) ?_
  refine lv_dup hx hb dX5_init_29 rfl ?_
  refine k_ci (va_runIN (As := []) (rest := [.ref q_13, .int 11, .ref q_1]) ⟨hx, hb, hml, hown, hts⟩ (kk_X8_init_102 l D cA _ _ _ _ _ hKS.2.1.1 _ q_13 mq_13 tq_13 zq_13) (cIN hts mi_X8_init hN (show (RX5, 15, yX8_init, RX11) ∈ nwL by decide +kernel) rfl rfl ⟨Nat.le_of_ble_eq_true rfl, Nat.le_of_ble_eq_true rfl⟩) (pS hKS.1 hK hN) rfl rfl hl.1 rfl (lv_room (Nat.le_of_ble_eq_true rfl)) dX5_init_30 ⟨Nat.le_of_ble_eq_true rfl, Nat.le_of_ble_eq_true rfl⟩) hKS mq_13 nq_13 pq_13 hA hS tq_13 (fun L1 T1 r1 σ1 ρ1 H locs hKS mq_13 tq_13 hS => ?_)
  refine W.widen (k := 85) (n := 1028) (Nat.le_of_ble_eq_true rfl) (Nat.le_of_ble_eq_true rfl) ?_
  refine k_aa (rr := (RX8, TX8, 8)) hx hb hK hKS hS aq_38 rfl mq_13 tq_13 rfl rfl (i_in (by decide) (by decide)) (by decide) (fun _ h => by cases h) dX5_init_33 (fun r1 H locs hKS hS => ?_)
  refine lv_iinc (v := 12) (lv' := [(1, .int 12), (0, .ref h0)]) hx hb dX5_init_34 hl (k := 0) rfl (by decide) (by decide) rfl (fun ls hl => ?_)
  refine lv_goto (tgt := 15) hx hb dX5_init_37 (by decide) ?_
  refine lv_iload_n hx hb dX5_init_15 rfl (lv_at hl 0 rfl) ?_
  refine lv_bipush (v := 20) hx hb dX5_init_16 (by decide) ?_
  refine lv_icmp_ge (tgt := 40) hx hb dX5_init_18 (by decide) (fun c9 => absurd c9 (by decide)) (fun _ => ?_)
  refine lv_aload_n hx hb dX5_init_21 rfl (lv_at hl 1 rfl) ?_
  refine k_gq hx hb hts hown hK hKS fq_5_0 mw_2_48 dX5_init_22 ?_
  refine lv_iload_n hx hb dX5_init_25 rfl (lv_at hl 0 rfl) ?_
  refine k_no (t := 102) (ci := 8) (TT := TX8) hx hb hts lay8 tyX8_ok hown mw_2_45 mw_1_75 mw_1_5 hK hKS hS hA rfl rfl (fun j hj => by rcases (show j = 0 ∨ j = 1 ∨ j = 2 ∨ j = 3 ∨ j = 4 ∨ j = 5 ∨ j = 6 ∨ j = 7 by omega) with rfl | rfl | rfl | rfl | rfl | rfl | rfl | rfl <;> rfl) (Nat.le_of_ble_eq_true rfl) (Nat.le_of_ble_eq_true rfl) dX5_init_26 (fun q_14 L1 T1 r1 σ1 ρ1 H hKS mq_14 tq_14 zq_14 nq_14 pq_14 hS => ?_)
  refine W.widen (k := 86) (n := 1036) (Nat.le_of_ble_eq_true rfl) (Nat.le_of_ble_eq_true rfl) ?_
  refine lv_dup hx hb dX5_init_29 rfl ?_
  refine k_ci (va_runIN (As := []) (rest := [.ref q_14, .int 12, .ref q_1]) ⟨hx, hb, hml, hown, hts⟩ (kk_X8_init_102 l D cA _ _ _ _ _ hKS.2.1.1 _ q_14 mq_14 tq_14 zq_14) (cIN hts mi_X8_init hN (show (RX5, 15, yX8_init, RX11) ∈ nwL by decide +kernel) rfl rfl ⟨Nat.le_of_ble_eq_true rfl, Nat.le_of_ble_eq_true rfl⟩) (pS hKS.1 hK hN) rfl rfl hl.1 rfl (lv_room (Nat.le_of_ble_eq_true rfl)) dX5_init_30 ⟨Nat.le_of_ble_eq_true rfl, Nat.le_of_ble_eq_true rfl⟩) hKS mq_14 nq_14 pq_14 hA hS tq_14 (fun L1 T1 r1 σ1 ρ1 H locs hKS mq_14 tq_14 hS => ?_)
  refine W.widen (k := 92) (n := 1112) (Nat.le_of_ble_eq_true rfl) (Nat.le_of_ble_eq_true rfl) ?_
  refine k_aa (rr := (RX8, TX8, 8)) hx hb hK hKS hS aq_38 rfl mq_14 tq_14 rfl rfl (i_in (by decide) (by decide)) (by decide) (fun _ h => by cases h) dX5_init_33 (fun r1 H locs hKS hS => ?_)
  refine lv_iinc (v := 13) (lv' := [(1, .int 13), (0, .ref h0)]) hx hb dX5_init_34 hl (k := 0) rfl (by decide) (by decide) rfl (fun ls hl => ?_)
  refine lv_goto (tgt := 15) hx hb dX5_init_37 (by decide) ?_
  refine lv_iload_n hx hb dX5_init_15 rfl (lv_at hl 0 rfl) ?_
  refine lv_bipush (v := 20) hx hb dX5_init_16 (by decide) ?_
  refine lv_icmp_ge (tgt := 40) hx hb dX5_init_18 (by decide) (fun c9 => absurd c9 (by decide)) (fun _ => ?_)
  refine lv_aload_n hx hb dX5_init_21 rfl (lv_at hl 1 rfl) ?_
  refine k_gq hx hb hts hown hK hKS fq_5_0 mw_2_48 dX5_init_22 ?_
  refine lv_iload_n hx hb dX5_init_25 rfl (lv_at hl 0 rfl) ?_
  refine k_no (t := 102) (ci := 8) (TT := TX8) hx hb hts lay8 tyX8_ok hown mw_2_45 mw_1_75 mw_1_5 hK hKS hS hA rfl rfl (fun j hj => by rcases (show j = 0 ∨ j = 1 ∨ j = 2 ∨ j = 3 ∨ j = 4 ∨ j = 5 ∨ j = 6 ∨ j = 7 by omega) with rfl | rfl | rfl | rfl | rfl | rfl | rfl | rfl <;> rfl) (Nat.le_of_ble_eq_true rfl) (Nat.le_of_ble_eq_true rfl) dX5_init_26 (fun q_15 L1 T1 r1 σ1 ρ1 H hKS mq_15 tq_15 zq_15 nq_15 pq_15 hS => ?_)
  refine W.widen (k := 93) (n := 1120) (Nat.le_of_ble_eq_true rfl) (Nat.le_of_ble_eq_true rfl) ?_
  refine lv_dup hx hb dX5_init_29 rfl ?_
  refine k_ci (va_runIN (As := []) (rest := [.ref q_15, .int 13, .ref q_1]) ⟨hx, hb, hml, hown, hts⟩ (kk_X8_init_102 l D cA _ _ _ _ _ hKS.2.1.1 _ q_15 mq_15 tq_15 zq_15) (cIN hts mi_X8_init hN (show (RX5, 15, yX8_init, RX11) ∈ nwL by decide +kernel) rfl rfl ⟨Nat.le_of_ble_eq_true rfl, Nat.le_of_ble_eq_true rfl⟩) (pS hKS.1 hK hN) rfl rfl hl.1 rfl (lv_room (Nat.le_of_ble_eq_true rfl)) dX5_init_30 ⟨Nat.le_of_ble_eq_true rfl, Nat.le_of_ble_eq_true rfl⟩) hKS mq_15 nq_15 pq_15 hA hS tq_15 (fun L1 T1 r1 σ1 ρ1 H locs hKS mq_15 tq_15 hS => ?_)
  refine W.widen (k := 99) (n := 1196) (Nat.le_of_ble_eq_true rfl) (Nat.le_of_ble_eq_true rfl) ?_
  refine k_aa (rr := (RX8, TX8, 8)) hx hb hK hKS hS aq_38 rfl mq_15 tq_15 rfl rfl (i_in (by decide) (by decide)) (by decide) (fun _ h => by cases h) dX5_init_33 (fun r1 H locs hKS hS => ?_)
  refine lv_iinc (v := 14) (lv' := [(1, .int 14), (0, .ref h0)]) hx hb dX5_init_34 hl (k := 0) rfl (by decide) (by decide) rfl (fun ls hl => ?_)
  refine lv_goto (tgt := 15) hx hb dX5_init_37 (by decide) ?_
  refine lv_iload_n hx hb dX5_init_15 rfl (lv_at hl 0 rfl) ?_
  refine lv_bipush (v := 20) hx hb dX5_init_16 (by decide) ?_
  refine lv_icmp_ge (tgt := 40) hx hb dX5_init_18 (by decide) (fun c9 => absurd c9 (by decide)) (fun _ => ?_)
  refine lv_aload_n hx hb dX5_init_21 rfl (lv_at hl 1 rfl) ?_
  refine k_gq hx hb hts hown hK hKS fq_5_0 mw_2_48 dX5_init_22 ?_
  refine lv_iload_n hx hb dX5_init_25 rfl (lv_at hl 0 rfl) ?_
  refine k_no (t := 102) (ci := 8) (TT := TX8) hx hb hts lay8 tyX8_ok hown mw_2_45 mw_1_75 mw_1_5 hK hKS hS hA rfl rfl (fun j hj => by rcases (show j = 0 ∨ j = 1 ∨ j = 2 ∨ j = 3 ∨ j = 4 ∨ j = 5 ∨ j = 6 ∨ j = 7 by omega) with rfl | rfl | rfl | rfl | rfl | rfl | rfl | rfl <;> rfl) (Nat.le_of_ble_eq_true rfl) (Nat.le_of_ble_eq_true rfl) dX5_init_26 (fun q_16 L1 T1 r1 σ1 ρ1 H hKS mq_16 tq_16 zq_16 nq_16 pq_16 hS => ?_)
  refine W.widen (k := 100) (n := 1204) (Nat.le_of_ble_eq_true rfl) (Nat.le_of_ble_eq_true rfl) ?_
  refine lv_dup hx hb dX5_init_29 rfl ?_
  refine k_ci (va_runIN (As := []) (rest := [.ref q_16, .int 14, .ref q_1]) ⟨hx, hb, hml, hown, hts⟩ (kk_X8_init_102 l D cA _ _ _ _ _ hKS.2.1.1 _ q_16 mq_16 tq_16 zq_16) (cIN hts mi_X8_init hN (show (RX5, 15, yX8_init, RX11) ∈ nwL by decide +kernel) rfl rfl ⟨Nat.le_of_ble_eq_true rfl, Nat.le_of_ble_eq_true rfl⟩) (pS hKS.1 hK hN) rfl rfl hl.1 rfl (lv_room (Nat.le_of_ble_eq_true rfl)) dX5_init_30 ⟨Nat.le_of_ble_eq_true rfl, Nat.le_of_ble_eq_true rfl⟩) hKS mq_16 nq_16 pq_16 hA hS tq_16 (fun L1 T1 r1 σ1 ρ1 H locs hKS mq_16 tq_16 hS => ?_)
  refine W.widen (k := 106) (n := 1280) (Nat.le_of_ble_eq_true rfl) (Nat.le_of_ble_eq_true rfl) ?_
  refine k_aa (rr := (RX8, TX8, 8)) hx hb hK hKS hS aq_38 rfl mq_16 tq_16 rfl rfl (i_in (by decide) (by decide)) (by decide) (fun _ h => by cases h) dX5_init_33 (fun r1 H locs hKS hS => ?_)
  refine lv_iinc (v := 15) (lv' := [(1, .int 15), (0, .ref h0)]) hx hb dX5_init_34 hl (k := 0) rfl (by decide) (by decide) rfl (fun ls hl => ?_)
  refine lv_goto (tgt := 15) hx hb dX5_init_37 (by decide) ?_
  refine lv_iload_n hx hb dX5_init_15 rfl (lv_at hl 0 rfl) ?_
  refine lv_bipush (v := 20) hx hb dX5_init_16 (by decide) ?_
  refine lv_icmp_ge (tgt := 40) hx hb dX5_init_18 (by decide) (fun c9 => absurd c9 (by decide)) (fun _ => ?_)
  refine lv_aload_n hx hb dX5_init_21 rfl (lv_at hl 1 rfl) ?_
  refine k_gq hx hb hts hown hK hKS fq_5_0 mw_2_48 dX5_init_22 ?_
  refine lv_iload_n hx hb dX5_init_25 rfl (lv_at hl 0 rfl) ?_
  refine k_no (t := 102) (ci := 8) (TT := TX8) hx hb hts lay8 tyX8_ok hown mw_2_45 mw_1_75 mw_1_5 hK hKS hS hA rfl rfl (fun j hj => by rcases (show j = 0 ∨ j = 1 ∨ j = 2 ∨ j = 3 ∨ j = 4 ∨ j = 5 ∨ j = 6 ∨ j = 7 by omega) with rfl | rfl | rfl | rfl | rfl | rfl | rfl | rfl <;> rfl) (Nat.le_of_ble_eq_true rfl) (Nat.le_of_ble_eq_true rfl) dX5_init_26 (fun q_17 L1 T1 r1 σ1 ρ1 H hKS mq_17 tq_17 zq_17 nq_17 pq_17 hS => ?_)
  refine W.widen (k := 107) (n := 1288) (Nat.le_of_ble_eq_true rfl) (Nat.le_of_ble_eq_true rfl) ?_
  refine lv_dup hx hb dX5_init_29 rfl ?_
  refine k_ci (va_runIN (As := []) (rest := [.ref q_17, .int 15, .ref q_1]) ⟨hx, hb, hml, hown, hts⟩ (kk_X8_init_102 l D cA _ _ _ _ _ hKS.2.1.1 _ q_17 mq_17 tq_17 zq_17) (cIN hts mi_X8_init hN (show (RX5, 15, yX8_init, RX11) ∈ nwL by decide +kernel) rfl rfl ⟨Nat.le_of_ble_eq_true rfl, Nat.le_of_ble_eq_true rfl⟩) (pS hKS.1 hK hN) rfl rfl hl.1 rfl (lv_room (Nat.le_of_ble_eq_true rfl)) dX5_init_30 ⟨Nat.le_of_ble_eq_true rfl, Nat.le_of_ble_eq_true rfl⟩) hKS mq_17 nq_17 pq_17 hA hS tq_17 (fun L1 T1 r1 σ1 ρ1 H locs hKS mq_17 tq_17 hS => ?_)
  refine W.widen (k := 113) (n := 1364) (Nat.le_of_ble_eq_true rfl) (Nat.le_of_ble_eq_true rfl) ?_
  refine k_aa (rr := (RX8, TX8, 8)) hx hb hK hKS hS aq_38 rfl mq_17 tq_17 rfl rfl (i_in (by decide) (by decide)) (by decide) (fun _ h => by cases h) dX5_init_33 (fun r1 H locs hKS hS => ?_)
  refine lv_iinc (v := 16) (lv' := [(1, .int 16), (0, .ref h0)]) hx hb dX5_init_34 hl (k := 0) rfl (by decide) (by decide) rfl (fun ls hl => ?_)
  refine lv_goto (tgt := 15) hx hb dX5_init_37 (by decide) ?_
  refine lv_iload_n hx hb dX5_init_15 rfl (lv_at hl 0 rfl) ?_
  refine lv_bipush (v := 20) hx hb dX5_init_16 (by decide) ?_
  refine lv_icmp_ge (tgt := 40) hx hb dX5_init_18 (by decide) (fun c9 => absurd c9 (by decide)) (fun _ => ?_)
  refine lv_aload_n hx hb dX5_init_21 rfl (lv_at hl 1 rfl) ?_
  refine k_gq hx hb hts hown hK hKS fq_5_0 mw_2_48 dX5_init_22 ?_
  refine lv_iload_n hx hb dX5_init_25 rfl (lv_at hl 0 rfl) ?_
  refine k_no (t := 102) (ci := 8) (TT := TX8) hx hb hts lay8 tyX8_ok hown mw_2_45 mw_1_75 mw_1_5 hK hKS hS hA rfl rfl (fun j hj => by rcases (show j = 0 ∨ j = 1 ∨ j = 2 ∨ j = 3 ∨ j = 4 ∨ j = 5 ∨ j = 6 ∨ j = 7 by omega) with rfl | rfl | rfl | rfl | rfl | rfl | rfl | rfl <;> rfl) (Nat.le_of_ble_eq_true rfl) (Nat.le_of_ble_eq_true rfl) dX5_init_26 (fun q_18 L1 T1 r1 σ1 ρ1 H hKS mq_18 tq_18 zq_18 nq_18 pq_18 hS => ?_)
  refine W.widen (k := 114) (n := 1372) (Nat.le_of_ble_eq_true rfl) (Nat.le_of_ble_eq_true rfl) ?_
  refine lv_dup hx hb dX5_init_29 rfl ?_
  refine k_ci (va_runIN (As := []) (rest := [.ref q_18, .int 16, .ref q_1]) ⟨hx, hb, hml, hown, hts⟩ (kk_X8_init_102 l D cA _ _ _ _ _ hKS.2.1.1 _ q_18 mq_18 tq_18 zq_18) (cIN hts mi_X8_init hN (show (RX5, 15, yX8_init, RX11) ∈ nwL by decide +kernel) rfl rfl ⟨Nat.le_of_ble_eq_true rfl, Nat.le_of_ble_eq_true rfl⟩) (pS hKS.1 hK hN) rfl rfl hl.1 rfl (lv_room (Nat.le_of_ble_eq_true rfl)) dX5_init_30 ⟨Nat.le_of_ble_eq_true rfl, Nat.le_of_ble_eq_true rfl⟩) hKS mq_18 nq_18 pq_18 hA hS tq_18 (fun L1 T1 r1 σ1 ρ1 H locs hKS mq_18 tq_18 hS => ?_)
  refine W.widen (k := 120) (n := 1448) (Nat.le_of_ble_eq_true rfl) (Nat.le_of_ble_eq_true rfl) ?_
  refine k_aa (rr := (RX8, TX8, 8)) hx hb hK hKS hS aq_38 rfl mq_18 tq_18 rfl rfl (i_in (by decide) (by decide)) (by decide) (fun _ h => by cases h) dX5_init_33 (fun r1 H locs hKS hS => ?_)
  refine lv_iinc (v := 17) (lv' := [(1, .int 17), (0, .ref h0)]) hx hb dX5_init_34 hl (k := 0) rfl (by decide) (by decide) rfl (fun ls hl => ?_)
  refine lv_goto (tgt := 15) hx hb dX5_init_37 (by decide) ?_
  refine lv_iload_n hx hb dX5_init_15 rfl (lv_at hl 0 rfl) ?_
  refine lv_bipush (v := 20) hx hb dX5_init_16 (by decide) ?_
  refine lv_icmp_ge (tgt := 40) hx hb dX5_init_18 (by decide) (fun c9 => absurd c9 (by decide)) (fun _ => ?_)
  refine lv_aload_n hx hb dX5_init_21 rfl (lv_at hl 1 rfl) ?_
  refine k_gq hx hb hts hown hK hKS fq_5_0 mw_2_48 dX5_init_22 ?_
  refine lv_iload_n hx hb dX5_init_25 rfl (lv_at hl 0 rfl) ?_
  refine k_no (t := 102) (ci := 8) (TT := TX8) hx hb hts lay8 tyX8_ok hown mw_2_45 mw_1_75 mw_1_5 hK hKS hS hA rfl rfl (fun j hj => by rcases (show j = 0 ∨ j = 1 ∨ j = 2 ∨ j = 3 ∨ j = 4 ∨ j = 5 ∨ j = 6 ∨ j = 7 by omega) with rfl | rfl | rfl | rfl | rfl | rfl | rfl | rfl <;> rfl) (Nat.le_of_ble_eq_true rfl) (Nat.le_of_ble_eq_true rfl) dX5_init_26 (fun q_19 L1 T1 r1 σ1 ρ1 H hKS mq_19 tq_19 zq_19 nq_19 pq_19 hS => ?_)
  refine W.widen (k := 121) (n := 1456) (Nat.le_of_ble_eq_true rfl) (Nat.le_of_ble_eq_true rfl) ?_
  refine lv_dup hx hb dX5_init_29 rfl ?_
  refine k_ci (va_runIN (As := []) (rest := [.ref q_19, .int 17, .ref q_1]) ⟨hx, hb, hml, hown, hts⟩ (kk_X8_init_102 l D cA _ _ _ _ _ hKS.2.1.1 _ q_19 mq_19 tq_19 zq_19) (cIN hts mi_X8_init hN (show (RX5, 15, yX8_init, RX11) ∈ nwL by decide +kernel) rfl rfl ⟨Nat.le_of_ble_eq_true rfl, Nat.le_of_ble_eq_true rfl⟩) (pS hKS.1 hK hN) rfl rfl hl.1 rfl (lv_room (Nat.le_of_ble_eq_true rfl)) dX5_init_30 ⟨Nat.le_of_ble_eq_true rfl, Nat.le_of_ble_eq_true rfl⟩) hKS mq_19 nq_19 pq_19 hA hS tq_19 (fun L1 T1 r1 σ1 ρ1 H locs hKS mq_19 tq_19 hS => ?_)
  refine W.widen (k := 127) (n := 1532) (Nat.le_of_ble_eq_true rfl) (Nat.le_of_ble_eq_true rfl) ?_
  refine k_aa (rr := (RX8, TX8, 8)) hx hb hK hKS hS aq_38 rfl mq_19 tq_19 rfl rfl (i_in (by decide) (by decide)) (by decide) (fun _ h => by cases h) dX5_init_33 (fun r1 H locs hKS hS => ?_)
  refine lv_iinc (v := 18) (lv' := [(1, .int 18), (0, .ref h0)]) hx hb dX5_init_34 hl (k := 0) rfl (by decide) (by decide) rfl (fun ls hl => ?_)
  refine lv_goto (tgt := 15) hx hb dX5_init_37 (by decide) ?_
  refine lv_iload_n hx hb dX5_init_15 rfl (lv_at hl 0 rfl) ?_
  refine lv_bipush (v := 20) hx hb dX5_init_16 (by decide) ?_
  refine lv_icmp_ge (tgt := 40) hx hb dX5_init_18 (by decide) (fun c9 => absurd c9 (by decide)) (fun _ => ?_)
  refine lv_aload_n hx hb dX5_init_21 rfl (lv_at hl 1 rfl) ?_
  refine k_gq hx hb hts hown hK hKS fq_5_0 mw_2_48 dX5_init_22 ?_
  refine lv_iload_n hx hb dX5_init_25 rfl (lv_at hl 0 rfl) ?_
  refine k_no (t := 102) (ci := 8) (TT := TX8) hx hb hts lay8 tyX8_ok hown mw_2_45 mw_1_75 mw_1_5 hK hKS hS hA rfl rfl (fun j hj => by rcases (show j = 0 ∨ j = 1 ∨ j = 2 ∨ j = 3 ∨ j = 4 ∨ j = 5 ∨ j = 6 ∨ j = 7 by omega) with rfl | rfl | rfl | rfl | rfl | rfl | rfl | rfl <;> rfl) (Nat.le_of_ble_eq_true rfl) (Nat.le_of_ble_eq_true rfl) dX5_init_26 (fun q_20 L1 T1 r1 σ1 ρ1 H hKS mq_20 tq_20 zq_20 nq_20 pq_20 hS => ?_)
  refine W.widen (k := 128) (n := 1540) (Nat.le_of_ble_eq_true rfl) (Nat.le_of_ble_eq_true rfl) ?_
  refine lv_dup hx hb dX5_init_29 rfl ?_
  refine k_ci (va_runIN (As := []) (rest := [.ref q_20, .int 18, .ref q_1]) ⟨hx, hb, hml, hown, hts⟩ (kk_X8_init_102 l D cA _ _ _ _ _ hKS.2.1.1 _ q_20 mq_20 tq_20 zq_20) (cIN hts mi_X8_init hN (show (RX5, 15, yX8_init, RX11) ∈ nwL by decide +kernel) rfl rfl ⟨Nat.le_of_ble_eq_true rfl, Nat.le_of_ble_eq_true rfl⟩) (pS hKS.1 hK hN) rfl rfl hl.1 rfl (lv_room (Nat.le_of_ble_eq_true rfl)) dX5_init_30 ⟨Nat.le_of_ble_eq_true rfl, Nat.le_of_ble_eq_true rfl⟩) hKS mq_20 nq_20 pq_20 hA hS tq_20 (fun L1 T1 r1 σ1 ρ1 H locs hKS mq_20 tq_20 hS => ?_)
  refine W.widen (k := 134) (n := 1616) (Nat.le_of_ble_eq_true rfl) (Nat.le_of_ble_eq_true rfl) ?_
  refine k_aa (rr := (RX8, TX8, 8)) hx hb hK hKS hS aq_38 rfl mq_20 tq_20 rfl rfl (i_in (by decide) (by decide)) (by decide) (fun _ h => by cases h) dX5_init_33 (fun r1 H locs hKS hS => ?_)
  refine lv_iinc (v := 19) (lv' := [(1, .int 19), (0, .ref h0)]) hx hb dX5_init_34 hl (k := 0) rfl (by decide) (by decide) rfl (fun ls hl => ?_)
  refine lv_goto (tgt := 15) hx hb dX5_init_37 (by decide) ?_
  refine lv_iload_n hx hb dX5_init_15 rfl (lv_at hl 0 rfl) ?_
  refine lv_bipush (v := 20) hx hb dX5_init_16 (by decide) ?_
  refine lv_icmp_ge (tgt := 40) hx hb dX5_init_18 (by decide) (fun c9 => absurd c9 (by decide)) (fun _ => ?_)
  refine lv_aload_n hx hb dX5_init_21 rfl (lv_at hl 1 rfl) ?_
  refine k_gq hx hb hts hown hK hKS fq_5_0 mw_2_48 dX5_init_22 ?_
  refine lv_iload_n hx hb dX5_init_25 rfl (lv_at hl 0 rfl) ?_
  refine k_no (t := 102) (ci := 8) (TT := TX8) hx hb hts lay8 tyX8_ok hown mw_2_45 mw_1_75 mw_1_5 hK hKS hS hA rfl rfl (fun j hj => by rcases (show j = 0 ∨ j = 1 ∨ j = 2 ∨ j = 3 ∨ j = 4 ∨ j = 5 ∨ j = 6 ∨ j = 7 by omega) with rfl | rfl | rfl | rfl | rfl | rfl | rfl | rfl <;> rfl) (Nat.le_of_ble_eq_true rfl) (Nat.le_of_ble_eq_true rfl) dX5_init_26 (fun q_21 L1 T1 r1 σ1 ρ1 H hKS mq_21 tq_21 zq_21 nq_21 pq_21 hS => ?_)
  refine W.widen (k := 135) (n := 1624) (Nat.le_of_ble_eq_true rfl) (Nat.le_of_ble_eq_true rfl) ?_
  refine lv_dup hx hb dX5_init_29 rfl ?_
  refine k_ci (va_runIN (As := []) (rest := [.ref q_21, .int 19, .ref q_1]) ⟨hx, hb, hml, hown, hts⟩ (kk_X8_init_102 l D cA _ _ _ _ _ hKS.2.1.1 _ q_21 mq_21 tq_21 zq_21) (cIN hts mi_X8_init hN (show (RX5, 15, yX8_init, RX11) ∈ nwL by decide +kernel) rfl rfl ⟨Nat.le_of_ble_eq_true rfl, Nat.le_of_ble_eq_true rfl⟩) (pS hKS.1 hK hN) rfl rfl hl.1 rfl (lv_room (Nat.le_of_ble_eq_true rfl)) dX5_init_30 ⟨Nat.le_of_ble_eq_true rfl, Nat.le_of_ble_eq_true rfl⟩) hKS mq_21 nq_21 pq_21 hA hS tq_21 (fun L1 T1 r1 σ1 ρ1 H locs hKS mq_21 tq_21 hS => ?_)
  refine W.widen (k := 141) (n := 1700) (Nat.le_of_ble_eq_true rfl) (Nat.le_of_ble_eq_true rfl) ?_
  refine k_aa (rr := (RX8, TX8, 8)) hx hb hK hKS hS aq_38 rfl mq_21 tq_21 rfl rfl (i_in (by decide) (by decide)) (by decide) (fun _ h => by cases h) dX5_init_33 (fun r1 H locs hKS hS => ?_)
  have hKS := hKS.full (fun j t9 h9 => by by_cases hj : j < 20; exact hj; rw [show fT 38 j = none from if_neg hj] at h9; cases h9) (fun j => i0_38 j)
  refine lv_iinc (v := 20) (lv' := [(1, .int 20), (0, .ref h0)]) hx hb dX5_init_34 hl (k := 0) rfl (by decide) (by decide) rfl (fun ls hl => ?_)
  refine lv_goto (tgt := 15) hx hb dX5_init_37 (by decide) ?_
  refine lv_iload_n hx hb dX5_init_15 rfl (lv_at hl 0 rfl) ?_
  refine lv_bipush (v := 20) hx hb dX5_init_16 (by decide) ?_
  refine lv_icmp_ge (tgt := 40) hx hb dX5_init_18 (by decide) (fun _ => ?_) (fun c9 => absurd (by decide) c9)
  exact W.vret hx hb hr (fun t ht hW => ⟨⟨(), rfl, trivial, hKS.end hn_5 hf_5 ht⟩, hS.F ht⟩) hS.2.2 dX5_init_40
theorem mw_1_27 : (.methodLink RX11 1 objectInit : Cond) ∈ wsA := wsA_t (List.mem_append_left _ (List.mem_of_getElem? (l := tables_1_1) (i := 27) rfl)) rfl
theorem mw_1_30 : (.classLink RX11 7 RX9 : Cond) ∈ wsA := wsA_t (List.mem_append_left _ (List.mem_of_getElem? (l := tables_1_1) (i := 30) rfl)) rfl
theorem mw_1_31 : (.instantiable RX9 7 : Cond) ∈ wsA := wsA_t (List.mem_append_left _ (List.mem_of_getElem? (l := tables_1_1) (i := 31) rfl)) rfl
theorem mw_1_33 : (.instanceMethod yX9_init : Cond) ∈ wsA := wsA_t (List.mem_append_left _ (List.mem_of_getElem? (l := tables_1_1) (i := 33) rfl)) rfl
theorem mw_1_34 : (.code yX9_init cX9_init 1 none : Cond) ∈ wsA := wsA_t (List.mem_append_left _ (List.mem_of_getElem? (l := tables_1_1) (i := 34) rfl)) rfl
theorem mw_1_62 : (.classLink RX11 16 RX4 : Cond) ∈ wsA := wsA_t (List.mem_append_left _ (List.mem_of_getElem? (l := tables_1_1) (i := 62) rfl)) rfl
theorem mw_1_63 : (.instantiable RX4 2 : Cond) ∈ wsA := wsA_t (List.mem_append_left _ (List.mem_of_getElem? (l := tables_1_1) (i := 63) rfl)) rfl
theorem mw_1_65 : (.instanceMethod yX4_init : Cond) ∈ wsA := wsA_t (List.mem_append_left _ (List.mem_of_getElem? (l := tables_1_1) (i := 65) rfl)) rfl
theorem mw_1_66 : (.code yX4_init cX4_init 1 none : Cond) ∈ wsA := wsA_t (List.mem_append_left _ (List.mem_of_getElem? (l := tables_1_1) (i := 66) rfl)) rfl
theorem mw_1_221 : (.classLink RX11 23 RX7 : Cond) ∈ wsA := wsA_t (List.mem_append_left _ (List.mem_of_getElem? (l := tables_1_1) (i := 221) rfl)) rfl
theorem mw_1_223 : (.classLink RX11 29 RX10 : Cond) ∈ wsA := wsA_t (List.mem_append_left _ (List.mem_of_getElem? (l := tables_1_1) (i := 223) rfl)) rfl
theorem mw_1_224 : (.instantiable RX10 9 : Cond) ∈ wsA := wsA_t (List.mem_append_left _ (List.mem_of_getElem? (l := tables_1_1) (i := 224) rfl)) rfl
theorem mw_1_226 : (.instanceMethod yX10_init : Cond) ∈ wsA := wsA_t (List.mem_append_left _ (List.mem_of_getElem? (l := tables_1_1) (i := 226) rfl)) rfl
theorem mw_1_227 : (.code yX10_init cX10_init 1 none : Cond) ∈ wsA := wsA_t (List.mem_append_left _ (List.mem_of_getElem? (l := tables_1_1) (i := 227) rfl)) rfl
theorem mw_2_39 : (.classLink RX11 40 RX5 : Cond) ∈ wsA := wsA_t (List.mem_append_right _ (List.mem_append_left _ (List.mem_of_getElem? (l := tables_1_2) (i := 39) rfl))) rfl
theorem mw_2_40 : (.instantiable RX5 3 : Cond) ∈ wsA := wsA_t (List.mem_append_right _ (List.mem_append_left _ (List.mem_of_getElem? (l := tables_1_2) (i := 40) rfl))) rfl
theorem mw_2_42 : (.instanceMethod yX5_init : Cond) ∈ wsA := wsA_t (List.mem_append_right _ (List.mem_append_left _ (List.mem_of_getElem? (l := tables_1_2) (i := 42) rfl))) rfl
theorem mw_2_43 : (.code yX5_init cX5_init 2 none : Cond) ∈ wsA := wsA_t (List.mem_append_right _ (List.mem_append_left _ (List.mem_of_getElem? (l := tables_1_2) (i := 43) rfl))) rfl
theorem mw_2_41 : (.methodLink RX11 42 yX5_init : Cond) ∈ wsA := wsA_t (List.mem_append_right _ (List.mem_append_left _ (List.mem_of_getElem? (l := tables_1_2) (i := 41) rfl))) rfl
theorem mw_2_59 : (.classLink RX11 47 RX6 : Cond) ∈ wsA := wsA_t (List.mem_append_right _ (List.mem_append_left _ (List.mem_of_getElem? (l := tables_1_2) (i := 59) rfl))) rfl
theorem mw_2_60 : (.instantiable RX6 6 : Cond) ∈ wsA := wsA_t (List.mem_append_right _ (List.mem_append_left _ (List.mem_of_getElem? (l := tables_1_2) (i := 60) rfl))) rfl
theorem mw_2_62 : (.instanceMethod yX6_init : Cond) ∈ wsA := wsA_t (List.mem_append_right _ (List.mem_append_left _ (List.mem_of_getElem? (l := tables_1_2) (i := 62) rfl))) rfl
theorem mw_2_63 : (.code yX6_init cX6_init 1 none : Cond) ∈ wsA := wsA_t (List.mem_append_right _ (List.mem_append_left _ (List.mem_of_getElem? (l := tables_1_2) (i := 63) rfl))) rfl
theorem mw_2_89 : (.classLink RX11 54 RX0 : Cond) ∈ wsA := wsA_t (List.mem_append_right _ (List.mem_append_left _ (List.mem_of_getElem? (l := tables_1_2) (i := 89) rfl))) rfl
theorem mw_2_90 : (.instantiable RX0 6 : Cond) ∈ wsA := wsA_t (List.mem_append_right _ (List.mem_append_left _ (List.mem_of_getElem? (l := tables_1_2) (i := 90) rfl))) rfl
theorem mw_2_92 : (.instanceMethod yX0_init : Cond) ∈ wsA := wsA_t (List.mem_append_right _ (List.mem_append_left _ (List.mem_of_getElem? (l := tables_1_2) (i := 92) rfl))) rfl
theorem mw_2_93 : (.code yX0_init cX0_init 1 none : Cond) ∈ wsA := wsA_t (List.mem_append_right _ (List.mem_append_left _ (List.mem_of_getElem? (l := tables_1_2) (i := 93) rfl))) rfl
theorem mw_2_119 : (.classLink RX11 61 RX1 : Cond) ∈ wsA := wsA_t (List.mem_append_right _ (List.mem_append_left _ (List.mem_of_getElem? (l := tables_1_2) (i := 119) rfl))) rfl
theorem mw_2_120 : (.instantiable RX1 9 : Cond) ∈ wsA := wsA_t (List.mem_append_right _ (List.mem_append_left _ (List.mem_of_getElem? (l := tables_1_2) (i := 120) rfl))) rfl
theorem mw_2_122 : (.instanceMethod yX1_init : Cond) ∈ wsA := wsA_t (List.mem_append_right _ (List.mem_append_left _ (List.mem_of_getElem? (l := tables_1_2) (i := 122) rfl))) rfl
theorem mw_2_123 : (.code yX1_init cX1_init 1 none : Cond) ∈ wsA := wsA_t (List.mem_append_right _ (List.mem_append_left _ (List.mem_of_getElem? (l := tables_1_2) (i := 123) rfl))) rfl
theorem mw_2_156 : (.classLink RX11 68 RX2 : Cond) ∈ wsA := wsA_t (List.mem_append_right _ (List.mem_append_left _ (List.mem_of_getElem? (l := tables_1_2) (i := 156) rfl))) rfl
theorem mw_2_157 : (.instantiable RX2 4 : Cond) ∈ wsA := wsA_t (List.mem_append_right _ (List.mem_append_left _ (List.mem_of_getElem? (l := tables_1_2) (i := 157) rfl))) rfl
theorem mw_2_159 : (.instanceMethod yX2_init : Cond) ∈ wsA := wsA_t (List.mem_append_right _ (List.mem_append_left _ (List.mem_of_getElem? (l := tables_1_2) (i := 159) rfl))) rfl
theorem mw_2_160 : (.code yX2_init cX2_init 1 none : Cond) ∈ wsA := wsA_t (List.mem_append_right _ (List.mem_append_left _ (List.mem_of_getElem? (l := tables_1_2) (i := 160) rfl))) rfl
theorem mw_2_177 : (.instantiable RX7 8 : Cond) ∈ wsA := wsA_t (List.mem_append_right _ (List.mem_append_left _ (List.mem_of_getElem? (l := tables_1_2) (i := 177) rfl))) rfl
theorem mw_2_179 : (.instanceMethod yX7_init : Cond) ∈ wsA := wsA_t (List.mem_append_right _ (List.mem_append_left _ (List.mem_of_getElem? (l := tables_1_2) (i := 179) rfl))) rfl
theorem mw_2_180 : (.code yX7_init cX7_init 1 none : Cond) ∈ wsA := wsA_t (List.mem_append_right _ (List.mem_append_left _ (List.mem_of_getElem? (l := tables_1_2) (i := 180) rfl))) rfl
theorem dX11_init_0 : decode cX11_init 0 = .ok (.aload_n 0, 1) := by decide +kernel
theorem dX11_init_1 : decode cX11_init 1 = .ok (.invokespecial 1, 3) := by decide +kernel
theorem dX11_init_4 : decode cX11_init 4 = .ok (.aload_n 0, 1) := by decide +kernel
theorem dX11_init_5 : decode cX11_init 5 = .ok (.new 7, 3) := by decide +kernel
theorem dX11_init_8 : decode cX11_init 8 = .ok (.dup, 1) := by decide +kernel
theorem dX11_init_9 : decode cX11_init 9 = .ok (.invokespecial 9, 3) := by decide +kernel
theorem dX11_init_12 : decode cX11_init 12 = .ok (.putfield 10, 3) := by decide +kernel
theorem dX11_init_15 : decode cX11_init 15 = .ok (.aload_n 0, 1) := by decide +kernel
theorem dX11_init_16 : decode cX11_init 16 = .ok (.new 16, 3) := by decide +kernel
theorem dX11_init_19 : decode cX11_init 19 = .ok (.dup, 1) := by decide +kernel
theorem dX11_init_20 : decode cX11_init 20 = .ok (.invokespecial 18, 3) := by decide +kernel
theorem dX11_init_23 : decode cX11_init 23 = .ok (.putfield 19, 3) := by decide +kernel
theorem dX11_init_26 : decode cX11_init 26 = .ok (.aload_n 0, 1) := by decide +kernel
theorem dX11_init_27 : decode cX11_init 27 = .ok (.bipush 6, 2) := by decide +kernel
theorem dX11_init_29 : decode cX11_init 29 = .ok (.anewarray 23, 3) := by decide +kernel
theorem dX11_init_32 : decode cX11_init 32 = .ok (.putfield 25, 3) := by decide +kernel
theorem dX11_init_35 : decode cX11_init 35 = .ok (.aload_n 0, 1) := by decide +kernel
theorem dX11_init_36 : decode cX11_init 36 = .ok (.new 29, 3) := by decide +kernel
theorem dX11_init_39 : decode cX11_init 39 = .ok (.dup, 1) := by decide +kernel
theorem dX11_init_40 : decode cX11_init 40 = .ok (.invokespecial 31, 3) := by decide +kernel
theorem dX11_init_43 : decode cX11_init 43 = .ok (.putfield 32, 3) := by decide +kernel
theorem dX11_init_46 : decode cX11_init 46 = .ok (.aload_n 0, 1) := by decide +kernel
theorem dX11_init_47 : decode cX11_init 47 = .ok (.iconst 4, 1) := by decide +kernel
theorem dX11_init_48 : decode cX11_init 48 = .ok (.anewarray 29, 3) := by decide +kernel
theorem dX11_init_51 : decode cX11_init 51 = .ok (.putfield 36, 3) := by decide +kernel
theorem dX11_init_54 : decode cX11_init 54 = .ok (.aload_n 0, 1) := by decide +kernel
theorem dX11_init_55 : decode cX11_init 55 = .ok (.new 40, 3) := by decide +kernel
theorem dX11_init_58 : decode cX11_init 58 = .ok (.dup, 1) := by decide +kernel
theorem dX11_init_59 : decode cX11_init 59 = .ok (.invokespecial 42, 3) := by decide +kernel
theorem dX11_init_62 : decode cX11_init 62 = .ok (.putfield 43, 3) := by decide +kernel
theorem dX11_init_65 : decode cX11_init 65 = .ok (.aload_n 0, 1) := by decide +kernel
theorem dX11_init_66 : decode cX11_init 66 = .ok (.new 47, 3) := by decide +kernel
theorem dX11_init_69 : decode cX11_init 69 = .ok (.dup, 1) := by decide +kernel
theorem dX11_init_70 : decode cX11_init 70 = .ok (.invokespecial 49, 3) := by decide +kernel
theorem dX11_init_73 : decode cX11_init 73 = .ok (.putfield 50, 3) := by decide +kernel
theorem dX11_init_76 : decode cX11_init 76 = .ok (.aload_n 0, 1) := by decide +kernel
theorem dX11_init_77 : decode cX11_init 77 = .ok (.new 54, 3) := by decide +kernel
theorem dX11_init_80 : decode cX11_init 80 = .ok (.dup, 1) := by decide +kernel
theorem dX11_init_81 : decode cX11_init 81 = .ok (.invokespecial 56, 3) := by decide +kernel
theorem dX11_init_84 : decode cX11_init 84 = .ok (.putfield 57, 3) := by decide +kernel
theorem dX11_init_87 : decode cX11_init 87 = .ok (.aload_n 0, 1) := by decide +kernel
theorem dX11_init_88 : decode cX11_init 88 = .ok (.new 61, 3) := by decide +kernel
theorem dX11_init_91 : decode cX11_init 91 = .ok (.dup, 1) := by decide +kernel
theorem dX11_init_92 : decode cX11_init 92 = .ok (.invokespecial 63, 3) := by decide +kernel
theorem dX11_init_95 : decode cX11_init 95 = .ok (.putfield 64, 3) := by decide +kernel
theorem dX11_init_98 : decode cX11_init 98 = .ok (.aload_n 0, 1) := by decide +kernel
theorem dX11_init_99 : decode cX11_init 99 = .ok (.new 68, 3) := by decide +kernel
theorem dX11_init_102 : decode cX11_init 102 = .ok (.dup, 1) := by decide +kernel
theorem dX11_init_103 : decode cX11_init 103 = .ok (.invokespecial 70, 3) := by decide +kernel
theorem dX11_init_106 : decode cX11_init 106 = .ok (.putfield 71, 3) := by decide +kernel
theorem dX11_init_109 : decode cX11_init 109 = .ok (.iconst 0, 1) := by decide +kernel
theorem dX11_init_110 : decode cX11_init 110 = .ok (.istore_n 1, 1) := by decide +kernel
theorem dX11_init_111 : decode cX11_init 111 = .ok (.iload_n 1, 1) := by decide +kernel
theorem dX11_init_112 : decode cX11_init 112 = .ok (.bipush 6, 2) := by decide +kernel
theorem dX11_init_114 : decode cX11_init 114 = .ok (.if_icmp .ge 22, 3) := by decide +kernel
theorem dX11_init_117 : decode cX11_init 117 = .ok (.aload_n 0, 1) := by decide +kernel
theorem dX11_init_118 : decode cX11_init 118 = .ok (.getfield 25, 3) := by decide +kernel
theorem dX11_init_121 : decode cX11_init 121 = .ok (.iload_n 1, 1) := by decide +kernel
theorem dX11_init_122 : decode cX11_init 122 = .ok (.new 23, 3) := by decide +kernel
theorem dX11_init_125 : decode cX11_init 125 = .ok (.dup, 1) := by decide +kernel
theorem dX11_init_126 : decode cX11_init 126 = .ok (.invokespecial 75, 3) := by decide +kernel
theorem dX11_init_129 : decode cX11_init 129 = .ok (.aastore, 1) := by decide +kernel
theorem dX11_init_130 : decode cX11_init 130 = .ok (.iinc 1 1, 3) := by decide +kernel
theorem dX11_init_133 : decode cX11_init 133 = .ok (.goto (-22), 3) := by decide +kernel
theorem dX11_init_136 : decode cX11_init 136 = .ok (.iconst 0, 1) := by decide +kernel
theorem dX11_init_137 : decode cX11_init 137 = .ok (.istore_n 1, 1) := by decide +kernel
theorem dX11_init_138 : decode cX11_init 138 = .ok (.iload_n 1, 1) := by decide +kernel
theorem dX11_init_139 : decode cX11_init 139 = .ok (.iconst 4, 1) := by decide +kernel
theorem dX11_init_140 : decode cX11_init 140 = .ok (.if_icmp .ge 22, 3) := by decide +kernel
theorem dX11_init_143 : decode cX11_init 143 = .ok (.aload_n 0, 1) := by decide +kernel
theorem dX11_init_144 : decode cX11_init 144 = .ok (.getfield 36, 3) := by decide +kernel
theorem dX11_init_147 : decode cX11_init 147 = .ok (.iload_n 1, 1) := by decide +kernel
theorem dX11_init_148 : decode cX11_init 148 = .ok (.new 29, 3) := by decide +kernel
theorem dX11_init_151 : decode cX11_init 151 = .ok (.dup, 1) := by decide +kernel
theorem dX11_init_152 : decode cX11_init 152 = .ok (.invokespecial 31, 3) := by decide +kernel
theorem dX11_init_155 : decode cX11_init 155 = .ok (.aastore, 1) := by decide +kernel
theorem dX11_init_156 : decode cX11_init 156 = .ok (.iinc 1 1, 3) := by decide +kernel
theorem dX11_init_159 : decode cX11_init 159 = .ok (.goto (-21), 3) := by decide +kernel
theorem dX11_init_162 : decode cX11_init 162 = .ok (.return_, 1) := by decide +kernel
theorem mi_X9_init : MI yX9_init cX9_init 1 0 := ⟨mw_1_33, mw_1_2, mw_1_34, rfl, by decide, by decide, by decide +kernel⟩
theorem mi_X4_init : MI yX4_init cX4_init 1 0 := ⟨mw_1_65, mw_1_3, mw_1_66, rfl, by decide, by decide, by decide +kernel⟩
theorem mi_X10_init : MI yX10_init cX10_init 1 0 := ⟨mw_1_226, mw_1_6, mw_1_227, rfl, by decide, by decide, by decide +kernel⟩
theorem mi_X5_init : MI yX5_init cX5_init 2 0 := ⟨mw_2_42, mw_1_7, mw_2_43, rfl, by decide, by decide, by decide +kernel⟩
theorem mi_X6_init : MI yX6_init cX6_init 1 0 := ⟨mw_2_62, mw_1_8, mw_2_63, rfl, by decide, by decide, by decide +kernel⟩
theorem mi_X0_init : MI yX0_init cX0_init 1 0 := ⟨mw_2_92, mw_1_9, mw_2_93, rfl, by decide, by decide, by decide +kernel⟩
theorem mi_X1_init : MI yX1_init cX1_init 1 0 := ⟨mw_2_122, mw_1_10, mw_2_123, rfl, by decide, by decide, by decide +kernel⟩
theorem mi_X2_init : MI yX2_init cX2_init 1 0 := ⟨mw_2_159, mw_1_11, mw_2_160, rfl, by decide, by decide, by decide +kernel⟩
theorem mi_X7_init : MI yX7_init cX7_init 1 0 := ⟨mw_2_179, mw_1_12, mw_2_180, rfl, by decide, by decide, by decide +kernel⟩
theorem hn_11 : ∀ k t : Nat, fT 11 k = some t → k < 10 := fun k t h => match k, h with | 0, h => by decide | 1, h => by decide | 2, h => by decide | 3, h => by decide | 4, h => by decide | 5, h => by decide | 6, h => by decide | 7, h => by decide | 8, h => by decide | 9, h => by decide | 10, h => nomatch h | 11, h => nomatch h | k + 12, h => nomatch h
theorem hf_11 : ∀ j : Nat, (fun _ => (0 : Int32)) j = ini 11 j := fun j => by unfold ini; rw [if_neg (fun h => absurd h.1 (by decide)), if_neg (fun h => absurd h.1 (by decide))]
set_option maxHeartbeats 4000000 in
set_option maxRecDepth 100000 in
theorem kk_X11_init_11 (l : Launch) (D : va_G) (cA : Nat → ClassId) (L : List Nat) (T : Nat → Nat) (r : Rg) (σ : Sg) (ρ : Lg) (hL : L.Nodup) (sz : Nat) (h0 : Nat) (mh0 : h0 ∈ L) (th0 : T h0 = 11) (z0 : ∀ j, σ h0 j = 0) : Met l yX11_init (.code yX11_init cX11_init 2 none :: wsA) ({ frames := 4, cells := 351, slots := 9173, locals := 100 }) (PR D cA L T r σ ρ sz [.ref h0]) (va_Qv (fun _ : Unit => True) (fun _ t => KQ D cA L T r σ h0 sz t) (dm L sz)) 351 9173 (dm L sz) := by
  refine Met.ofW (cc := cX11_init) (maxL := 2) (ret := none) (by decide) rfl ?_
  intro p e s m args below meth c s₁ B hml hv
  obtain ⟨rfl, hsz, hP, hK, hN⟩ := hv
  have hx := B.exec
  have hb := B.bytes
  have hr := B.returns
  have hts : ∀ w ∈ wsA, w.before _ s = true := fun w h => atoms_spec (ws := .code yX11_init cX11_init 2 none :: wsA) B.pre w (List.mem_cons_of_mem _ h)
  have hown : s.vm.findClass RX11 = some m.cls := findClass_of_methodNamed B.named
  have hin : meth.name = "<init>" := (name_of_methodNamed B.named B.method).1
  subst hsz
  have hKS := KS.begin (sz := s.heap.size) hP ⟨hL, fun a h => Or.inl h⟩ mh0 th0 z0
  have hA : ∀ q : Nat, s.heap.size ≤ q → dm L s.heap.size q := fun q h => Or.inr h
  have hS : va_S (dm L s.heap.size) s.heap s.heap [] := va_S.rf
  have hl := lv_entry ([.ref h0]) (n := 2) (Nat.le_of_ble_eq_true rfl)
  rw [lg_entry_eq]
  generalize (lg_sl ([.ref h0]) ++ List.replicate (2 - (lg_sl ([.ref h0])).length) Slot.unset).toArray = ls at hl ⊢
  have hl : lv_has ls 2 [(0, .ref h0)] := hl
  refine lv_aload_n hx hb dX11_init_0 rfl (lv_at hl 0 rfl) ?_
  refine W.objInit hx hb hown (hts _ mw_1_27) (hts _ mw_1_28) (hts _ mw_1_29) rfl (by rw [hml]; exact hl.1) rfl dX11_init_1 (Nat.le_of_ble_eq_true rfl) (Nat.le_of_ble_eq_true rfl) ?_
  refine W.eq (g2 := F0 m 4 ls []) rfl ?_
  refine lv_aload_n hx hb dX11_init_4 rfl (lv_at hl 0 rfl) ?_
  refine k_no (t := 9) (ci := 9) (TT := TX9) hx hb hts lay9 tyX9_ok hown mw_1_30 mw_1_31 mw_1_2 hK hKS hS hA rfl rfl (fun j hj => by rcases (show j = 0 ∨ j = 1 ∨ j = 2 ∨ j = 3 ∨ j = 4 ∨ j = 5 ∨ j = 6 by omega) with rfl | rfl | rfl | rfl | rfl | rfl | rfl <;> rfl) (Nat.le_of_ble_eq_true rfl) (Nat.le_of_ble_eq_true rfl) dX11_init_5 (fun q_1 L1 T1 r1 σ1 ρ1 H hKS mq_1 tq_1 zq_1 nq_1 pq_1 hS => ?_)
  refine W.widen (k := 1) (n := 7) (Nat.le_of_ble_eq_true rfl) (Nat.le_of_ble_eq_true rfl) ?_
  refine lv_dup hx hb dX11_init_8 rfl ?_
  refine k_ci (va_runIN (As := []) (rest := [.ref q_1, .ref h0]) ⟨hx, hb, hml, hown, hts⟩ (kk_X9_init_9 l D cA _ _ _ _ _ hKS.2.1.1 _ q_1 mq_1 tq_1 zq_1) (cIN hts mi_X9_init hN (show (RX11, 9, yX9_init, RX11) ∈ nwL by decide +kernel) rfl rfl ⟨Nat.le_of_ble_eq_true rfl, Nat.le_of_ble_eq_true rfl⟩) (pS hKS.1 hK hN) rfl rfl hl.1 rfl (lv_room (Nat.le_of_ble_eq_true rfl)) dX11_init_9 ⟨Nat.le_of_ble_eq_true rfl, Nat.le_of_ble_eq_true rfl⟩) hKS mq_1 nq_1 pq_1 hA hS tq_1 (fun L1 T1 r1 σ1 ρ1 H locs hKS mq_1 tq_1 hS => ?_)
  refine W.widen (k := 5) (n := 1610) (Nat.le_of_ble_eq_true rfl) (Nat.le_of_ble_eq_true rfl) ?_
  refine k_pr hx hb hts hown hin hK hKS hS mq_1 tq_1 fq_11_0 rfl rfl rfl rfl (fun i h1 h2 => absurd h2 (by omega)) (fun _ h => by cases h) mw_2_207 dX11_init_12 (fun r1 H locs hKS _ _ hS => ?_)
  refine lv_aload_n hx hb dX11_init_15 rfl (lv_at hl 0 rfl) ?_
  refine k_no (t := 4) (ci := 4) (TT := TX4) hx hb hts lay4 tyX4_ok hown mw_1_62 mw_1_63 mw_1_3 hK hKS hS hA rfl rfl (fun j hj => by rcases (show j = 0 ∨ j = 1 by omega) with rfl | rfl <;> rfl) (Nat.le_of_ble_eq_true rfl) (Nat.le_of_ble_eq_true rfl) dX11_init_16 (fun q_2 L1 T1 r1 σ1 ρ1 H hKS mq_2 tq_2 zq_2 nq_2 pq_2 hS => ?_)
  refine W.widen (k := 6) (n := 1612) (Nat.le_of_ble_eq_true rfl) (Nat.le_of_ble_eq_true rfl) ?_
  refine lv_dup hx hb dX11_init_19 rfl ?_
  refine k_ci (va_runIN (As := []) (rest := [.ref q_2, .ref h0]) ⟨hx, hb, hml, hown, hts⟩ (kk_X4_init_4 l D cA _ _ _ _ _ hKS.2.1.1 _ q_2 mq_2 tq_2 zq_2) (cIN hts mi_X4_init hN (show (RX11, 18, yX4_init, RX11) ∈ nwL by decide +kernel) rfl rfl ⟨Nat.le_of_ble_eq_true rfl, Nat.le_of_ble_eq_true rfl⟩) (pS hKS.1 hK hN) rfl rfl hl.1 rfl (lv_room (Nat.le_of_ble_eq_true rfl)) dX11_init_20 ⟨Nat.le_of_ble_eq_true rfl, Nat.le_of_ble_eq_true rfl⟩) hKS mq_2 nq_2 pq_2 hA hS tq_2 (fun L1 T1 r1 σ1 ρ1 H locs hKS mq_2 tq_2 hS => ?_)
  refine W.widen (k := 19) (n := 1738) (Nat.le_of_ble_eq_true rfl) (Nat.le_of_ble_eq_true rfl) ?_
  refine k_pr hx hb hts hown hin hK hKS hS mq_2 tq_2 fq_11_1 rfl rfl rfl rfl (fun i h1 h2 => absurd h2 (by omega)) (fun _ h => by cases h) mw_2_208 dX11_init_23 (fun r1 H locs hKS _ _ hS => ?_)
  refine lv_aload_n hx hb dX11_init_26 rfl (lv_at hl 0 rfl) ?_
  refine lv_bipush (v := 6) hx hb dX11_init_27 (by decide) ?_
  refine k_nq (t := 59) (ki := 5) hx hb hts hown mw_1_221 hN.2.2.1 hK rfl hKS hS hA rfl (by decide) rfl (by decide) (Nat.le_of_ble_eq_true rfl) (Nat.le_of_ble_eq_true rfl) dX11_init_29 (fun q_3 L1 T1 r1 σ1 ρ1 H hKS mq_3 tq_3 zq_3 nq_3 pq_3 hS => ?_)
  refine W.widen (k := 20) (n := 1744) (Nat.le_of_ble_eq_true rfl) (Nat.le_of_ble_eq_true rfl) ?_
  refine k_pq hx hb hts hown hin hK hKS hS mq_3 tq_3 zq_3 nq_3 fq_11_2 rfl rfl rfl rfl (fun i h1 h2 => absurd h2 (by omega)) (fun _ h => by cases h) mw_2_209 dX11_init_32 (fun r1 H locs hKS hS => ?_)
  have hKS : KS D cA _ _ _ _ _ h0 [] [(2, q_3, 59, 0)] 11 3 _ _ _ _ _ _ _ := hKS
  refine lv_aload_n hx hb dX11_init_35 rfl (lv_at hl 0 rfl) ?_
  refine k_no (t := 10) (ci := 10) (TT := TX10) hx hb hts lay10 tyX10_ok hown mw_1_223 mw_1_224 mw_1_6 hK hKS hS hA rfl rfl (fun j hj => by rcases (show j = 0 ∨ j = 1 ∨ j = 2 ∨ j = 3 ∨ j = 4 ∨ j = 5 ∨ j = 6 ∨ j = 7 ∨ j = 8 by omega) with rfl | rfl | rfl | rfl | rfl | rfl | rfl | rfl | rfl <;> rfl) (Nat.le_of_ble_eq_true rfl) (Nat.le_of_ble_eq_true rfl) dX11_init_36 (fun q_4 L1 T1 r1 σ1 ρ1 H hKS mq_4 tq_4 zq_4 nq_4 pq_4 hS => ?_)
  refine W.widen (k := 21) (n := 1753) (Nat.le_of_ble_eq_true rfl) (Nat.le_of_ble_eq_true rfl) ?_
  refine lv_dup hx hb dX11_init_39 rfl ?_
  refine k_ci (va_runIN (As := []) (rest := [.ref q_4, .ref h0]) ⟨hx, hb, hml, hown, hts⟩ (kk_X10_init_10 l D cA _ _ _ _ _ hKS.2.1.1 _ q_4 mq_4 tq_4 zq_4) (cIN hts mi_X10_init hN (show (RX11, 31, yX10_init, RX11) ∈ nwL by decide +kernel) rfl rfl ⟨Nat.le_of_ble_eq_true rfl, Nat.le_of_ble_eq_true rfl⟩) (pS hKS.1 hK hN) rfl rfl hl.1 rfl (lv_room (Nat.le_of_ble_eq_true rfl)) dX11_init_40 ⟨Nat.le_of_ble_eq_true rfl, Nat.le_of_ble_eq_true rfl⟩) hKS mq_4 nq_4 pq_4 hA hS tq_4 (fun L1 T1 r1 σ1 ρ1 H locs hKS mq_4 tq_4 hS => ?_)
  refine W.widen (k := 45) (n := 1998) (Nat.le_of_ble_eq_true rfl) (Nat.le_of_ble_eq_true rfl) ?_
  refine k_pr hx hb hts hown hin hK hKS hS mq_4 tq_4 fq_11_3 rfl rfl rfl rfl (fun i h1 h2 => absurd h2 (by omega)) (List.forall_mem_cons.mpr ⟨(show (2 : Nat) ≠ 3 by decide), (fun _ h => by cases h)⟩) mw_2_210 dX11_init_43 (fun r1 H locs hKS _ _ hS => ?_)
  refine lv_aload_n hx hb dX11_init_46 rfl (lv_at hl 0 rfl) ?_
  refine lv_iconst (v := 4) hx hb dX11_init_47 (by decide) ?_
  refine k_nq (t := 60) (ki := 6) hx hb hts hown mw_1_223 hN.2.2.2 hK rfl hKS hS hA rfl (by decide) rfl (by decide) (Nat.le_of_ble_eq_true rfl) (Nat.le_of_ble_eq_true rfl) dX11_init_48 (fun q_5 L1 T1 r1 σ1 ρ1 H hKS mq_5 tq_5 zq_5 nq_5 pq_5 hS => ?_)
  refine W.widen (k := 46) (n := 2002) (Nat.le_of_ble_eq_true rfl) (Nat.le_of_ble_eq_true rfl) ?_
  refine k_pq hx hb hts hown hin hK hKS hS mq_5 tq_5 zq_5 nq_5 fq_11_4 rfl rfl rfl rfl (fun i h1 h2 => absurd h2 (by omega)) (List.forall_mem_cons.mpr ⟨(show (2 : Nat) ≠ 4 by decide), (fun _ h => by cases h)⟩) mw_2_211 dX11_init_51 (fun r1 H locs hKS hS => ?_)
  have hKS : KS D cA _ _ _ _ _ h0 [] [(2, q_3, 59, 0), (4, q_5, 60, 0)] 11 5 _ _ _ _ _ _ _ := hKS
  refine lv_aload_n hx hb dX11_init_54 rfl (lv_at hl 0 rfl) ?_
  refine k_no (t := 5) (ci := 5) (TT := TX5) hx hb hts lay5 tyX5_ok hown mw_2_39 mw_2_40 mw_1_7 hK hKS hS hA rfl rfl (fun j hj => by rcases (show j = 0 ∨ j = 1 ∨ j = 2 by omega) with rfl | rfl | rfl <;> rfl) (Nat.le_of_ble_eq_true rfl) (Nat.le_of_ble_eq_true rfl) dX11_init_55 (fun q_6 L1 T1 r1 σ1 ρ1 H hKS mq_6 tq_6 zq_6 nq_6 pq_6 hS => ?_)
  refine W.widen (k := 47) (n := 2005) (Nat.le_of_ble_eq_true rfl) (Nat.le_of_ble_eq_true rfl) ?_
  refine lv_dup hx hb dX11_init_58 rfl ?_
  refine k_ci (va_runI (As := []) (rest := [.ref q_6, .ref h0]) ⟨hx, hb, hml, hown, hts⟩ (kk_X5_init_5 l D cA _ _ _ _ _ hKS.2.1.1 _ q_6 mq_6 tq_6 zq_6) (cI hts mi_X5_init mw_2_41 rfl rfl ⟨Nat.le_of_ble_eq_true rfl, Nat.le_of_ble_eq_true rfl⟩) (pS hKS.1 hK hN) rfl rfl hl.1 rfl (lv_room (Nat.le_of_ble_eq_true rfl)) dX11_init_59 ⟨Nat.le_of_ble_eq_true rfl, Nat.le_of_ble_eq_true rfl⟩) hKS mq_6 nq_6 pq_6 hA hS tq_6 (fun L1 T1 r1 σ1 ρ1 H locs hKS mq_6 tq_6 hS => ?_)
  refine W.widen (k := 188) (n := 3705) (Nat.le_of_ble_eq_true rfl) (Nat.le_of_ble_eq_true rfl) ?_
  refine k_pr hx hb hts hown hin hK hKS hS mq_6 tq_6 fq_11_5 rfl rfl rfl rfl (fun i h1 h2 => absurd h2 (by omega)) (List.forall_mem_cons.mpr ⟨(show (2 : Nat) ≠ 5 by decide), (List.forall_mem_cons.mpr ⟨(show (4 : Nat) ≠ 5 by decide), (fun _ h => by cases h)⟩)⟩) mw_2_212 dX11_init_62 (fun r1 H locs hKS _ _ hS => ?_)
  refine lv_aload_n hx hb dX11_init_65 rfl (lv_at hl 0 rfl) ?_
  refine k_no (t := 6) (ci := 6) (TT := TX6) hx hb hts lay6 tyX6_ok hown mw_2_59 mw_2_60 mw_1_8 hK hKS hS hA rfl rfl (fun j hj => by rcases (show j = 0 ∨ j = 1 ∨ j = 2 ∨ j = 3 ∨ j = 4 ∨ j = 5 by omega) with rfl | rfl | rfl | rfl | rfl | rfl <;> rfl) (Nat.le_of_ble_eq_true rfl) (Nat.le_of_ble_eq_true rfl) dX11_init_66 (fun q_7 L1 T1 r1 σ1 ρ1 H hKS mq_7 tq_7 zq_7 nq_7 pq_7 hS => ?_)
  refine W.widen (k := 189) (n := 3711) (Nat.le_of_ble_eq_true rfl) (Nat.le_of_ble_eq_true rfl) ?_
  refine lv_dup hx hb dX11_init_69 rfl ?_
  refine k_ci (va_runIN (As := []) (rest := [.ref q_7, .ref h0]) ⟨hx, hb, hml, hown, hts⟩ (kk_X6_init_6 l D cA _ _ _ _ _ hKS.2.1.1 _ q_7 mq_7 tq_7 zq_7) (cIN hts mi_X6_init hN (show (RX11, 49, yX6_init, RX11) ∈ nwL by decide +kernel) rfl rfl ⟨Nat.le_of_ble_eq_true rfl, Nat.le_of_ble_eq_true rfl⟩) (pS hKS.1 hK hN) rfl rfl hl.1 rfl (lv_room (Nat.le_of_ble_eq_true rfl)) dX11_init_70 ⟨Nat.le_of_ble_eq_true rfl, Nat.le_of_ble_eq_true rfl⟩) hKS mq_7 nq_7 pq_7 hA hS tq_7 (fun L1 T1 r1 σ1 ρ1 H locs hKS mq_7 tq_7 hS => ?_)
  refine W.widen (k := 198) (n := 3869) (Nat.le_of_ble_eq_true rfl) (Nat.le_of_ble_eq_true rfl) ?_
  refine k_pr hx hb hts hown hin hK hKS hS mq_7 tq_7 fq_11_6 rfl rfl rfl rfl (fun i h1 h2 => absurd h2 (by omega)) (List.forall_mem_cons.mpr ⟨(show (2 : Nat) ≠ 6 by decide), (List.forall_mem_cons.mpr ⟨(show (4 : Nat) ≠ 6 by decide), (fun _ h => by cases h)⟩)⟩) mw_2_213 dX11_init_73 (fun r1 H locs hKS _ _ hS => ?_)
  refine lv_aload_n hx hb dX11_init_76 rfl (lv_at hl 0 rfl) ?_
  refine k_no (t := 0) (ci := 0) (TT := TX0) hx hb hts lay0 tyX0_ok hown mw_2_89 mw_2_90 mw_1_9 hK hKS hS hA rfl rfl (fun j hj => by rcases (show j = 0 ∨ j = 1 ∨ j = 2 ∨ j = 3 ∨ j = 4 ∨ j = 5 by omega) with rfl | rfl | rfl | rfl | rfl | rfl <;> rfl) (Nat.le_of_ble_eq_true rfl) (Nat.le_of_ble_eq_true rfl) dX11_init_77 (fun q_8 L1 T1 r1 σ1 ρ1 H hKS mq_8 tq_8 zq_8 nq_8 pq_8 hS => ?_)
  refine W.widen (k := 199) (n := 3875) (Nat.le_of_ble_eq_true rfl) (Nat.le_of_ble_eq_true rfl) ?_
  refine lv_dup hx hb dX11_init_80 rfl ?_
  refine k_ci (va_runIN (As := []) (rest := [.ref q_8, .ref h0]) ⟨hx, hb, hml, hown, hts⟩ (kk_X0_init_0 l D cA _ _ _ _ _ hKS.2.1.1 _ q_8 mq_8 tq_8 zq_8) (cIN hts mi_X0_init hN (show (RX11, 56, yX0_init, RX11) ∈ nwL by decide +kernel) rfl rfl ⟨Nat.le_of_ble_eq_true rfl, Nat.le_of_ble_eq_true rfl⟩) (pS hKS.1 hK hN) rfl rfl hl.1 rfl (lv_room (Nat.le_of_ble_eq_true rfl)) dX11_init_81 ⟨Nat.le_of_ble_eq_true rfl, Nat.le_of_ble_eq_true rfl⟩) hKS mq_8 nq_8 pq_8 hA hS tq_8 (fun L1 T1 r1 σ1 ρ1 H locs hKS mq_8 tq_8 hS => ?_)
  refine W.widen (k := 203) (n := 4914) (Nat.le_of_ble_eq_true rfl) (Nat.le_of_ble_eq_true rfl) ?_
  refine k_pr hx hb hts hown hin hK hKS hS mq_8 tq_8 fq_11_7 rfl rfl rfl rfl (fun i h1 h2 => absurd h2 (by omega)) (List.forall_mem_cons.mpr ⟨(show (2 : Nat) ≠ 7 by decide), (List.forall_mem_cons.mpr ⟨(show (4 : Nat) ≠ 7 by decide), (fun _ h => by cases h)⟩)⟩) mw_2_214 dX11_init_84 (fun r1 H locs hKS _ _ hS => ?_)
  refine lv_aload_n hx hb dX11_init_87 rfl (lv_at hl 0 rfl) ?_
  refine k_no (t := 1) (ci := 1) (TT := TX1) hx hb hts lay1 tyX1_ok hown mw_2_119 mw_2_120 mw_1_10 hK hKS hS hA rfl rfl (fun j hj => by rcases (show j = 0 ∨ j = 1 ∨ j = 2 ∨ j = 3 ∨ j = 4 ∨ j = 5 ∨ j = 6 ∨ j = 7 ∨ j = 8 by omega) with rfl | rfl | rfl | rfl | rfl | rfl | rfl | rfl | rfl <;> rfl) (Nat.le_of_ble_eq_true rfl) (Nat.le_of_ble_eq_true rfl) dX11_init_88 (fun q_9 L1 T1 r1 σ1 ρ1 H hKS mq_9 tq_9 zq_9 nq_9 pq_9 hS => ?_)
  refine W.widen (k := 204) (n := 4923) (Nat.le_of_ble_eq_true rfl) (Nat.le_of_ble_eq_true rfl) ?_
  refine lv_dup hx hb dX11_init_91 rfl ?_
  refine k_ci (va_runIN (As := []) (rest := [.ref q_9, .ref h0]) ⟨hx, hb, hml, hown, hts⟩ (kk_X1_init_1 l D cA _ _ _ _ _ hKS.2.1.1 _ q_9 mq_9 tq_9 zq_9) (cIN hts mi_X1_init hN (show (RX11, 63, yX1_init, RX11) ∈ nwL by decide +kernel) rfl rfl ⟨Nat.le_of_ble_eq_true rfl, Nat.le_of_ble_eq_true rfl⟩) (pS hKS.1 hK hN) rfl rfl hl.1 rfl (lv_room (Nat.le_of_ble_eq_true rfl)) dX11_init_92 ⟨Nat.le_of_ble_eq_true rfl, Nat.le_of_ble_eq_true rfl⟩) hKS mq_9 nq_9 pq_9 hA hS tq_9 (fun L1 T1 r1 σ1 ρ1 H locs hKS mq_9 tq_9 hS => ?_)
  refine W.widen (k := 211) (n := 4967) (Nat.le_of_ble_eq_true rfl) (Nat.le_of_ble_eq_true rfl) ?_
  refine k_pr hx hb hts hown hin hK hKS hS mq_9 tq_9 fq_11_8 rfl rfl rfl rfl (fun i h1 h2 => absurd h2 (by omega)) (List.forall_mem_cons.mpr ⟨(show (2 : Nat) ≠ 8 by decide), (List.forall_mem_cons.mpr ⟨(show (4 : Nat) ≠ 8 by decide), (fun _ h => by cases h)⟩)⟩) mw_2_215 dX11_init_95 (fun r1 H locs hKS _ _ hS => ?_)
  refine lv_aload_n hx hb dX11_init_98 rfl (lv_at hl 0 rfl) ?_
  refine k_no (t := 2) (ci := 2) (TT := TX2) hx hb hts lay2 tyX2_ok hown mw_2_156 mw_2_157 mw_1_11 hK hKS hS hA rfl rfl (fun j hj => by rcases (show j = 0 ∨ j = 1 ∨ j = 2 ∨ j = 3 by omega) with rfl | rfl | rfl | rfl <;> rfl) (Nat.le_of_ble_eq_true rfl) (Nat.le_of_ble_eq_true rfl) dX11_init_99 (fun q_10 L1 T1 r1 σ1 ρ1 H hKS mq_10 tq_10 zq_10 nq_10 pq_10 hS => ?_)
  refine W.widen (k := 212) (n := 4971) (Nat.le_of_ble_eq_true rfl) (Nat.le_of_ble_eq_true rfl) ?_
  refine lv_dup hx hb dX11_init_102 rfl ?_
  refine k_ci (va_runIN (As := []) (rest := [.ref q_10, .ref h0]) ⟨hx, hb, hml, hown, hts⟩ (kk_X2_init_2 l D cA _ _ _ _ _ hKS.2.1.1 _ q_10 mq_10 tq_10 zq_10) (cIN hts mi_X2_init hN (show (RX11, 70, yX2_init, RX11) ∈ nwL by decide +kernel) rfl rfl ⟨Nat.le_of_ble_eq_true rfl, Nat.le_of_ble_eq_true rfl⟩) (pS hKS.1 hK hN) rfl rfl hl.1 rfl (lv_room (Nat.le_of_ble_eq_true rfl)) dX11_init_103 ⟨Nat.le_of_ble_eq_true rfl, Nat.le_of_ble_eq_true rfl⟩) hKS mq_10 nq_10 pq_10 hA hS tq_10 (fun L1 T1 r1 σ1 ρ1 H locs hKS mq_10 tq_10 hS => ?_)
  refine W.widen (k := 221) (n := 5487) (Nat.le_of_ble_eq_true rfl) (Nat.le_of_ble_eq_true rfl) ?_
  refine k_pr hx hb hts hown hin hK hKS hS mq_10 tq_10 fq_11_9 rfl rfl rfl rfl (fun i h1 h2 => absurd h2 (by omega)) (List.forall_mem_cons.mpr ⟨(show (2 : Nat) ≠ 9 by decide), (List.forall_mem_cons.mpr ⟨(show (4 : Nat) ≠ 9 by decide), (fun _ h => by cases h)⟩)⟩) mw_2_216 dX11_init_106 (fun r1 H locs hKS _ _ hS => ?_)
  refine lv_iconst (v := 0) hx hb dX11_init_109 (by decide) ?_
  refine lv_istore_n (lv' := [(1, .int 0), (0, .ref h0)]) hx hb dX11_init_110 rfl hl (by decide) rfl (fun ls hl => ?_)
  refine lv_iload_n hx hb dX11_init_111 rfl (lv_at hl 0 rfl) ?_
  refine lv_bipush (v := 6) hx hb dX11_init_112 (by decide) ?_
  refine lv_icmp_ge (tgt := 136) hx hb dX11_init_114 (by decide) (fun c9 => absurd c9 (by decide)) (fun _ => ?_)
  refine lv_aload_n hx hb dX11_init_117 rfl (lv_at hl 1 rfl) ?_
  refine k_gq hx hb hts hown hK hKS fq_11_2 mw_2_209 dX11_init_118 ?_
  refine lv_iload_n hx hb dX11_init_121 rfl (lv_at hl 0 rfl) ?_
  refine k_no (t := 7) (ci := 7) (TT := TX7) hx hb hts lay7 tyX7_ok hown mw_1_221 mw_2_177 mw_1_12 hK hKS hS hA rfl rfl (fun j hj => by rcases (show j = 0 ∨ j = 1 ∨ j = 2 ∨ j = 3 ∨ j = 4 ∨ j = 5 ∨ j = 6 ∨ j = 7 by omega) with rfl | rfl | rfl | rfl | rfl | rfl | rfl | rfl <;> rfl) (Nat.le_of_ble_eq_true rfl) (Nat.le_of_ble_eq_true rfl) dX11_init_122 (fun q_11 L1 T1 r1 σ1 ρ1 H hKS mq_11 tq_11 zq_11 nq_11 pq_11 hS => ?_)
  refine W.widen (k := 222) (n := 5495) (Nat.le_of_ble_eq_true rfl) (Nat.le_of_ble_eq_true rfl) ?_
  refine lv_dup hx hb dX11_init_125 rfl ?_
  refine k_ci (va_runIN (As := []) (rest := [.ref q_11, .int 0, .ref q_3]) ⟨hx, hb, hml, hown, hts⟩ (kk_X7_init_7 l D cA _ _ _ _ _ hKS.2.1.1 _ q_11 mq_11 tq_11 zq_11) (cIN hts mi_X7_init hN (show (RX11, 75, yX7_init, RX11) ∈ nwL by decide +kernel) rfl rfl ⟨Nat.le_of_ble_eq_true rfl, Nat.le_of_ble_eq_true rfl⟩) (pS hKS.1 hK hN) rfl rfl hl.1 rfl (lv_room (Nat.le_of_ble_eq_true rfl)) dX11_init_126 ⟨Nat.le_of_ble_eq_true rfl, Nat.le_of_ble_eq_true rfl⟩) hKS mq_11 nq_11 pq_11 hA hS tq_11 (fun L1 T1 r1 σ1 ρ1 H locs hKS mq_11 tq_11 hS => ?_)
  refine W.widen (k := 226) (n := 5932) (Nat.le_of_ble_eq_true rfl) (Nat.le_of_ble_eq_true rfl) ?_
  refine k_aa (rr := (RX7, TX7, 8)) hx hb hK hKS hS aq_59 rfl mq_11 tq_11 rfl rfl (i_in (by decide) (by decide)) (by decide) (List.forall_mem_cons.mpr ⟨(pq_5 _ List.mem_cons_self).symm, (fun _ h => by cases h)⟩) dX11_init_129 (fun r1 H locs hKS hS => ?_)
  refine lv_iinc (v := 1) (lv' := [(1, .int 1), (0, .ref h0)]) hx hb dX11_init_130 hl (k := 0) rfl (by decide) (by decide) rfl (fun ls hl => ?_)
  refine lv_goto (tgt := 111) hx hb dX11_init_133 (by decide) ?_
  refine lv_iload_n hx hb dX11_init_111 rfl (lv_at hl 0 rfl) ?_
  refine lv_bipush (v := 6) hx hb dX11_init_112 (by decide) ?_
  refine lv_icmp_ge (tgt := 136) hx hb dX11_init_114 (by decide) (fun c9 => absurd c9 (by decide)) (fun _ => ?_)
  refine lv_aload_n hx hb dX11_init_117 rfl (lv_at hl 1 rfl) ?_
  refine k_gq hx hb hts hown hK hKS fq_11_2 mw_2_209 dX11_init_118 ?_
  refine lv_iload_n hx hb dX11_init_121 rfl (lv_at hl 0 rfl) ?_
  refine k_no (t := 7) (ci := 7) (TT := TX7) hx hb hts lay7 tyX7_ok hown mw_1_221 mw_2_177 mw_1_12 hK hKS hS hA rfl rfl (fun j hj => by rcases (show j = 0 ∨ j = 1 ∨ j = 2 ∨ j = 3 ∨ j = 4 ∨ j = 5 ∨ j = 6 ∨ j = 7 by omega) with rfl | rfl | rfl | rfl | rfl | rfl | rfl | rfl <;> rfl) (Nat.le_of_ble_eq_true rfl) (Nat.le_of_ble_eq_true rfl) dX11_init_122 (fun q_12 L1 T1 r1 σ1 ρ1 H hKS mq_12 tq_12 zq_12 nq_12 pq_12 hS => ?_)
  refine W.widen (k := 227) (n := 5940) (Nat.le_of_ble_eq_true rfl) (Nat.le_of_ble_eq_true rfl) ?_
  refine lv_dup hx hb dX11_init_125 rfl ?_
  refine k_ci (va_runIN (As := []) (rest := [.ref q_12, .int 1, .ref q_3]) ⟨hx, hb, hml, hown, hts⟩ (kk_X7_init_7 l D cA _ _ _ _ _ hKS.2.1.1 _ q_12 mq_12 tq_12 zq_12) (cIN hts mi_X7_init hN (show (RX11, 75, yX7_init, RX11) ∈ nwL by decide +kernel) rfl rfl ⟨Nat.le_of_ble_eq_true rfl, Nat.le_of_ble_eq_true rfl⟩) (pS hKS.1 hK hN) rfl rfl hl.1 rfl (lv_room (Nat.le_of_ble_eq_true rfl)) dX11_init_126 ⟨Nat.le_of_ble_eq_true rfl, Nat.le_of_ble_eq_true rfl⟩) hKS mq_12 nq_12 pq_12 hA hS tq_12 (fun L1 T1 r1 σ1 ρ1 H locs hKS mq_12 tq_12 hS => ?_)
  refine W.widen (k := 231) (n := 6377) (Nat.le_of_ble_eq_true rfl) (Nat.le_of_ble_eq_true rfl) ?_
  refine k_aa (rr := (RX7, TX7, 8)) hx hb hK hKS hS aq_59 rfl mq_12 tq_12 rfl rfl (i_in (by decide) (by decide)) (by decide) (List.forall_mem_cons.mpr ⟨(pq_5 _ List.mem_cons_self).symm, (fun _ h => by cases h)⟩) dX11_init_129 (fun r1 H locs hKS hS => ?_)
  refine lv_iinc (v := 2) (lv' := [(1, .int 2), (0, .ref h0)]) hx hb dX11_init_130 hl (k := 0) rfl (by decide) (by decide) rfl (fun ls hl => ?_)
  refine lv_goto (tgt := 111) hx hb dX11_init_133 (by decide) ?_
  refine lv_iload_n hx hb dX11_init_111 rfl (lv_at hl 0 rfl) ?_
  refine lv_bipush (v := 6) hx hb dX11_init_112 (by decide) ?_
  refine lv_icmp_ge (tgt := 136) hx hb dX11_init_114 (by decide) (fun c9 => absurd c9 (by decide)) (fun _ => ?_)
  refine lv_aload_n hx hb dX11_init_117 rfl (lv_at hl 1 rfl) ?_
  refine k_gq hx hb hts hown hK hKS fq_11_2 mw_2_209 dX11_init_118 ?_
  refine lv_iload_n hx hb dX11_init_121 rfl (lv_at hl 0 rfl) ?_
  refine k_no (t := 7) (ci := 7) (TT := TX7) hx hb hts lay7 tyX7_ok hown mw_1_221 mw_2_177 mw_1_12 hK hKS hS hA rfl rfl (fun j hj => by rcases (show j = 0 ∨ j = 1 ∨ j = 2 ∨ j = 3 ∨ j = 4 ∨ j = 5 ∨ j = 6 ∨ j = 7 by omega) with rfl | rfl | rfl | rfl | rfl | rfl | rfl | rfl <;> rfl) (Nat.le_of_ble_eq_true rfl) (Nat.le_of_ble_eq_true rfl) dX11_init_122 (fun q_13 L1 T1 r1 σ1 ρ1 H hKS mq_13 tq_13 zq_13 nq_13 pq_13 hS => ?_)
  refine W.widen (k := 232) (n := 6385) (Nat.le_of_ble_eq_true rfl) (Nat.le_of_ble_eq_true rfl) ?_
  refine lv_dup hx hb dX11_init_125 rfl ?_
  refine k_ci (va_runIN (As := []) (rest := [.ref q_13, .int 2, .ref q_3]) ⟨hx, hb, hml, hown, hts⟩ (kk_X7_init_7 l D cA _ _ _ _ _ hKS.2.1.1 _ q_13 mq_13 tq_13 zq_13) (cIN hts mi_X7_init hN (show (RX11, 75, yX7_init, RX11) ∈ nwL by decide +kernel) rfl rfl ⟨Nat.le_of_ble_eq_true rfl, Nat.le_of_ble_eq_true rfl⟩) (pS hKS.1 hK hN) rfl rfl hl.1 rfl (lv_room (Nat.le_of_ble_eq_true rfl)) dX11_init_126 ⟨Nat.le_of_ble_eq_true rfl, Nat.le_of_ble_eq_true rfl⟩) hKS mq_13 nq_13 pq_13 hA hS tq_13 (fun L1 T1 r1 σ1 ρ1 H locs hKS mq_13 tq_13 hS => ?_)
  refine W.widen (k := 236) (n := 6822) (Nat.le_of_ble_eq_true rfl) (Nat.le_of_ble_eq_true rfl) ?_
  refine k_aa (rr := (RX7, TX7, 8)) hx hb hK hKS hS aq_59 rfl mq_13 tq_13 rfl rfl (i_in (by decide) (by decide)) (by decide) (List.forall_mem_cons.mpr ⟨(pq_5 _ List.mem_cons_self).symm, (fun _ h => by cases h)⟩) dX11_init_129 (fun r1 H locs hKS hS => ?_)
  refine lv_iinc (v := 3) (lv' := [(1, .int 3), (0, .ref h0)]) hx hb dX11_init_130 hl (k := 0) rfl (by decide) (by decide) rfl (fun ls hl => ?_)
  refine lv_goto (tgt := 111) hx hb dX11_init_133 (by decide) ?_
  refine lv_iload_n hx hb dX11_init_111 rfl (lv_at hl 0 rfl) ?_
  refine lv_bipush (v := 6) hx hb dX11_init_112 (by decide) ?_
  refine lv_icmp_ge (tgt := 136) hx hb dX11_init_114 (by decide) (fun c9 => absurd c9 (by decide)) (fun _ => ?_)
  refine lv_aload_n hx hb dX11_init_117 rfl (lv_at hl 1 rfl) ?_
  refine k_gq hx hb hts hown hK hKS fq_11_2 mw_2_209 dX11_init_118 ?_
  refine lv_iload_n hx hb dX11_init_121 rfl (lv_at hl 0 rfl) ?_
  refine k_no (t := 7) (ci := 7) (TT := TX7) hx hb hts lay7 tyX7_ok hown mw_1_221 mw_2_177 mw_1_12 hK hKS hS hA rfl rfl (fun j hj => by rcases (show j = 0 ∨ j = 1 ∨ j = 2 ∨ j = 3 ∨ j = 4 ∨ j = 5 ∨ j = 6 ∨ j = 7 by omega) with rfl | rfl | rfl | rfl | rfl | rfl | rfl | rfl <;> rfl) (Nat.le_of_ble_eq_true rfl) (Nat.le_of_ble_eq_true rfl) dX11_init_122 (fun q_14 L1 T1 r1 σ1 ρ1 H hKS mq_14 tq_14 zq_14 nq_14 pq_14 hS => ?_)
  refine W.widen (k := 237) (n := 6830) (Nat.le_of_ble_eq_true rfl) (Nat.le_of_ble_eq_true rfl) ?_
  refine lv_dup hx hb dX11_init_125 rfl ?_
  refine k_ci (va_runIN (As := []) (rest := [.ref q_14, .int 3, .ref q_3]) ⟨hx, hb, hml, hown, hts⟩ (kk_X7_init_7 l D cA _ _ _ _ _ hKS.2.1.1 _ q_14 mq_14 tq_14 zq_14) (cIN hts mi_X7_init hN (show (RX11, 75, yX7_init, RX11) ∈ nwL by decide +kernel) rfl rfl ⟨Nat.le_of_ble_eq_true rfl, Nat.le_of_ble_eq_true rfl⟩) (pS hKS.1 hK hN) rfl rfl hl.1 rfl (lv_room (Nat.le_of_ble_eq_true rfl)) dX11_init_126 ⟨Nat.le_of_ble_eq_true rfl, Nat.le_of_ble_eq_true rfl⟩) hKS mq_14 nq_14 pq_14 hA hS tq_14 (fun L1 T1 r1 σ1 ρ1 H locs hKS mq_14 tq_14 hS => ?_)
  refine W.widen (k := 241) (n := 7267) (Nat.le_of_ble_eq_true rfl) (Nat.le_of_ble_eq_true rfl) ?_
  refine k_aa (rr := (RX7, TX7, 8)) hx hb hK hKS hS aq_59 rfl mq_14 tq_14 rfl rfl (i_in (by decide) (by decide)) (by decide) (List.forall_mem_cons.mpr ⟨(pq_5 _ List.mem_cons_self).symm, (fun _ h => by cases h)⟩) dX11_init_129 (fun r1 H locs hKS hS => ?_)
  refine lv_iinc (v := 4) (lv' := [(1, .int 4), (0, .ref h0)]) hx hb dX11_init_130 hl (k := 0) rfl (by decide) (by decide) rfl (fun ls hl => ?_)
  refine lv_goto (tgt := 111) hx hb dX11_init_133 (by decide) ?_
  refine lv_iload_n hx hb dX11_init_111 rfl (lv_at hl 0 rfl) ?_
  refine lv_bipush (v := 6) hx hb dX11_init_112 (by decide) ?_
  refine lv_icmp_ge (tgt := 136) hx hb dX11_init_114 (by decide) (fun c9 => absurd c9 (by decide)) (fun _ => ?_)
  refine lv_aload_n hx hb dX11_init_117 rfl (lv_at hl 1 rfl) ?_
  refine k_gq hx hb hts hown hK hKS fq_11_2 mw_2_209 dX11_init_118 ?_
  refine lv_iload_n hx hb dX11_init_121 rfl (lv_at hl 0 rfl) ?_
  refine k_no (t := 7) (ci := 7) (TT := TX7) hx hb hts lay7 tyX7_ok hown mw_1_221 mw_2_177 mw_1_12 hK hKS hS hA rfl rfl (fun j hj => by rcases (show j = 0 ∨ j = 1 ∨ j = 2 ∨ j = 3 ∨ j = 4 ∨ j = 5 ∨ j = 6 ∨ j = 7 by omega) with rfl | rfl | rfl | rfl | rfl | rfl | rfl | rfl <;> rfl) (Nat.le_of_ble_eq_true rfl) (Nat.le_of_ble_eq_true rfl) dX11_init_122 (fun q_15 L1 T1 r1 σ1 ρ1 H hKS mq_15 tq_15 zq_15 nq_15 pq_15 hS => ?_)
  refine W.widen (k := 242) (n := 7275) (Nat.le_of_ble_eq_true rfl) (Nat.le_of_ble_eq_true rfl) ?_
  refine lv_dup hx hb dX11_init_125 rfl ?_
  refine k_ci (va_runIN (As := []) (rest := [.ref q_15, .int 4, .ref q_3]) ⟨hx, hb, hml, hown, hts⟩ (kk_X7_init_7 l D cA _ _ _ _ _ hKS.2.1.1 _ q_15 mq_15 tq_15 zq_15) (cIN hts mi_X7_init hN (show (RX11, 75, yX7_init, RX11) ∈ nwL by decide +kernel) rfl rfl ⟨Nat.le_of_ble_eq_true rfl, Nat.le_of_ble_eq_true rfl⟩) (pS hKS.1 hK hN) rfl rfl hl.1 rfl (lv_room (Nat.le_of_ble_eq_true rfl)) dX11_init_126 ⟨Nat.le_of_ble_eq_true rfl, Nat.le_of_ble_eq_true rfl⟩) hKS mq_15 nq_15 pq_15 hA hS tq_15 (fun L1 T1 r1 σ1 ρ1 H locs hKS mq_15 tq_15 hS => ?_)
  refine W.widen (k := 246) (n := 7712) (Nat.le_of_ble_eq_true rfl) (Nat.le_of_ble_eq_true rfl) ?_
  refine k_aa (rr := (RX7, TX7, 8)) hx hb hK hKS hS aq_59 rfl mq_15 tq_15 rfl rfl (i_in (by decide) (by decide)) (by decide) (List.forall_mem_cons.mpr ⟨(pq_5 _ List.mem_cons_self).symm, (fun _ h => by cases h)⟩) dX11_init_129 (fun r1 H locs hKS hS => ?_)
  refine lv_iinc (v := 5) (lv' := [(1, .int 5), (0, .ref h0)]) hx hb dX11_init_130 hl (k := 0) rfl (by decide) (by decide) rfl (fun ls hl => ?_)
  refine lv_goto (tgt := 111) hx hb dX11_init_133 (by decide) ?_
  refine lv_iload_n hx hb dX11_init_111 rfl (lv_at hl 0 rfl) ?_
  refine lv_bipush (v := 6) hx hb dX11_init_112 (by decide) ?_
  refine lv_icmp_ge (tgt := 136) hx hb dX11_init_114 (by decide) (fun c9 => absurd c9 (by decide)) (fun _ => ?_)
  refine lv_aload_n hx hb dX11_init_117 rfl (lv_at hl 1 rfl) ?_
  refine k_gq hx hb hts hown hK hKS fq_11_2 mw_2_209 dX11_init_118 ?_
  refine lv_iload_n hx hb dX11_init_121 rfl (lv_at hl 0 rfl) ?_
  refine k_no (t := 7) (ci := 7) (TT := TX7) hx hb hts lay7 tyX7_ok hown mw_1_221 mw_2_177 mw_1_12 hK hKS hS hA rfl rfl (fun j hj => by rcases (show j = 0 ∨ j = 1 ∨ j = 2 ∨ j = 3 ∨ j = 4 ∨ j = 5 ∨ j = 6 ∨ j = 7 by omega) with rfl | rfl | rfl | rfl | rfl | rfl | rfl | rfl <;> rfl) (Nat.le_of_ble_eq_true rfl) (Nat.le_of_ble_eq_true rfl) dX11_init_122 (fun q_16 L1 T1 r1 σ1 ρ1 H hKS mq_16 tq_16 zq_16 nq_16 pq_16 hS => ?_)
  refine W.widen (k := 247) (n := 7720) (Nat.le_of_ble_eq_true rfl) (Nat.le_of_ble_eq_true rfl) ?_
  refine lv_dup hx hb dX11_init_125 rfl ?_
  refine k_ci (va_runIN (As := []) (rest := [.ref q_16, .int 5, .ref q_3]) ⟨hx, hb, hml, hown, hts⟩ (kk_X7_init_7 l D cA _ _ _ _ _ hKS.2.1.1 _ q_16 mq_16 tq_16 zq_16) (cIN hts mi_X7_init hN (show (RX11, 75, yX7_init, RX11) ∈ nwL by decide +kernel) rfl rfl ⟨Nat.le_of_ble_eq_true rfl, Nat.le_of_ble_eq_true rfl⟩) (pS hKS.1 hK hN) rfl rfl hl.1 rfl (lv_room (Nat.le_of_ble_eq_true rfl)) dX11_init_126 ⟨Nat.le_of_ble_eq_true rfl, Nat.le_of_ble_eq_true rfl⟩) hKS mq_16 nq_16 pq_16 hA hS tq_16 (fun L1 T1 r1 σ1 ρ1 H locs hKS mq_16 tq_16 hS => ?_)
  refine W.widen (k := 251) (n := 8157) (Nat.le_of_ble_eq_true rfl) (Nat.le_of_ble_eq_true rfl) ?_
  refine k_aa (rr := (RX7, TX7, 8)) hx hb hK hKS hS aq_59 rfl mq_16 tq_16 rfl rfl (i_in (by decide) (by decide)) (by decide) (List.forall_mem_cons.mpr ⟨(pq_5 _ List.mem_cons_self).symm, (fun _ h => by cases h)⟩) dX11_init_129 (fun r1 H locs hKS hS => ?_)
  have hKS := hKS.full (fun j t9 h9 => by by_cases hj : j < 6; exact hj; rw [show fT 59 j = none from if_neg hj] at h9; cases h9) (fun j => i0_59 j)
  refine lv_iinc (v := 6) (lv' := [(1, .int 6), (0, .ref h0)]) hx hb dX11_init_130 hl (k := 0) rfl (by decide) (by decide) rfl (fun ls hl => ?_)
  refine lv_goto (tgt := 111) hx hb dX11_init_133 (by decide) ?_
  refine lv_iload_n hx hb dX11_init_111 rfl (lv_at hl 0 rfl) ?_
  refine lv_bipush (v := 6) hx hb dX11_init_112 (by decide) ?_
  refine lv_icmp_ge (tgt := 136) hx hb dX11_init_114 (by decide) (fun _ => ?_) (fun c9 => absurd (by decide) c9)
  refine lv_iconst (v := 0) hx hb dX11_init_136 (by decide) ?_
  refine lv_istore_n (lv' := [(1, .int 0), (0, .ref h0)]) hx hb dX11_init_137 rfl hl (by decide) rfl (fun ls hl => ?_)
  refine lv_iload_n hx hb dX11_init_138 rfl (lv_at hl 0 rfl) ?_
  refine lv_iconst (v := 4) hx hb dX11_init_139 (by decide) ?_
  refine lv_icmp_ge (tgt := 162) hx hb dX11_init_140 (by decide) (fun c9 => absurd c9 (by decide)) (fun _ => ?_)
  refine lv_aload_n hx hb dX11_init_143 rfl (lv_at hl 1 rfl) ?_
  refine k_gq hx hb hts hown hK hKS fq_11_4 mw_2_211 dX11_init_144 ?_
  refine lv_iload_n hx hb dX11_init_147 rfl (lv_at hl 0 rfl) ?_
  refine k_no (t := 13) (ci := 10) (TT := TX10) hx hb hts lay10 tyX10_ok hown mw_1_223 mw_1_224 mw_1_6 hK hKS hS hA rfl rfl (fun j hj => by rcases (show j = 0 ∨ j = 1 ∨ j = 2 ∨ j = 3 ∨ j = 4 ∨ j = 5 ∨ j = 6 ∨ j = 7 ∨ j = 8 by omega) with rfl | rfl | rfl | rfl | rfl | rfl | rfl | rfl | rfl <;> rfl) (Nat.le_of_ble_eq_true rfl) (Nat.le_of_ble_eq_true rfl) dX11_init_148 (fun q_17 L1 T1 r1 σ1 ρ1 H hKS mq_17 tq_17 zq_17 nq_17 pq_17 hS => ?_)
  refine W.widen (k := 252) (n := 8166) (Nat.le_of_ble_eq_true rfl) (Nat.le_of_ble_eq_true rfl) ?_
  refine lv_dup hx hb dX11_init_151 rfl ?_
  refine k_ci (va_runIN (As := []) (rest := [.ref q_17, .int 0, .ref q_5]) ⟨hx, hb, hml, hown, hts⟩ (kk_X10_init_13 l D cA _ _ _ _ _ hKS.2.1.1 _ q_17 mq_17 tq_17 zq_17) (cIN hts mi_X10_init hN (show (RX11, 31, yX10_init, RX11) ∈ nwL by decide +kernel) rfl rfl ⟨Nat.le_of_ble_eq_true rfl, Nat.le_of_ble_eq_true rfl⟩) (pS hKS.1 hK hN) rfl rfl hl.1 rfl (lv_room (Nat.le_of_ble_eq_true rfl)) dX11_init_152 ⟨Nat.le_of_ble_eq_true rfl, Nat.le_of_ble_eq_true rfl⟩) hKS mq_17 nq_17 pq_17 hA hS tq_17 (fun L1 T1 r1 σ1 ρ1 H locs hKS mq_17 tq_17 hS => ?_)
  refine W.widen (k := 276) (n := 8411) (Nat.le_of_ble_eq_true rfl) (Nat.le_of_ble_eq_true rfl) ?_
  refine k_ab (rr := (RX10, TX10, 9)) hx hb hK hKS hS ar_60 (show fT 60 0 = some 13 from rfl) rfl mq_17 tq_17 rfl rfl (i_in (by decide) (by decide)) (by decide) (fun _ h => by cases h) dX11_init_155 (fun r1 H locs hKS hS => ?_)
  refine lv_iinc (v := 1) (lv' := [(1, .int 1), (0, .ref h0)]) hx hb dX11_init_156 hl (k := 0) rfl (by decide) (by decide) rfl (fun ls hl => ?_)
  refine lv_goto (tgt := 138) hx hb dX11_init_159 (by decide) ?_
  refine lv_iload_n hx hb dX11_init_138 rfl (lv_at hl 0 rfl) ?_
  refine lv_iconst (v := 4) hx hb dX11_init_139 (by decide) ?_
  refine lv_icmp_ge (tgt := 162) hx hb dX11_init_140 (by decide) (fun c9 => absurd c9 (by decide)) (fun _ => ?_)
  refine lv_aload_n hx hb dX11_init_143 rfl (lv_at hl 1 rfl) ?_
  refine k_gq hx hb hts hown hK hKS fq_11_4 mw_2_211 dX11_init_144 ?_
  refine lv_iload_n hx hb dX11_init_147 rfl (lv_at hl 0 rfl) ?_
  refine k_no (t := 14) (ci := 10) (TT := TX10) hx hb hts lay10 tyX10_ok hown mw_1_223 mw_1_224 mw_1_6 hK hKS hS hA rfl rfl (fun j hj => by rcases (show j = 0 ∨ j = 1 ∨ j = 2 ∨ j = 3 ∨ j = 4 ∨ j = 5 ∨ j = 6 ∨ j = 7 ∨ j = 8 by omega) with rfl | rfl | rfl | rfl | rfl | rfl | rfl | rfl | rfl <;> rfl) (Nat.le_of_ble_eq_true rfl) (Nat.le_of_ble_eq_true rfl) dX11_init_148 (fun q_18 L1 T1 r1 σ1 ρ1 H hKS mq_18 tq_18 zq_18 nq_18 pq_18 hS => ?_)
  refine W.widen (k := 277) (n := 8420) (Nat.le_of_ble_eq_true rfl) (Nat.le_of_ble_eq_true rfl) ?_
  refine lv_dup hx hb dX11_init_151 rfl ?_
  refine k_ci (va_runIN (As := []) (rest := [.ref q_18, .int 1, .ref q_5]) ⟨hx, hb, hml, hown, hts⟩ (kk_X10_init_14 l D cA _ _ _ _ _ hKS.2.1.1 _ q_18 mq_18 tq_18 zq_18) (cIN hts mi_X10_init hN (show (RX11, 31, yX10_init, RX11) ∈ nwL by decide +kernel) rfl rfl ⟨Nat.le_of_ble_eq_true rfl, Nat.le_of_ble_eq_true rfl⟩) (pS hKS.1 hK hN) rfl rfl hl.1 rfl (lv_room (Nat.le_of_ble_eq_true rfl)) dX11_init_152 ⟨Nat.le_of_ble_eq_true rfl, Nat.le_of_ble_eq_true rfl⟩) hKS mq_18 nq_18 pq_18 hA hS tq_18 (fun L1 T1 r1 σ1 ρ1 H locs hKS mq_18 tq_18 hS => ?_)
  refine W.widen (k := 301) (n := 8665) (Nat.le_of_ble_eq_true rfl) (Nat.le_of_ble_eq_true rfl) ?_
  refine k_ab (rr := (RX10, TX10, 9)) hx hb hK hKS hS ar_60 (show fT 60 1 = some 14 from rfl) rfl mq_18 tq_18 rfl rfl (i_in (by decide) (by decide)) (by decide) (fun _ h => by cases h) dX11_init_155 (fun r1 H locs hKS hS => ?_)
  refine lv_iinc (v := 2) (lv' := [(1, .int 2), (0, .ref h0)]) hx hb dX11_init_156 hl (k := 0) rfl (by decide) (by decide) rfl (fun ls hl => ?_)
  refine lv_goto (tgt := 138) hx hb dX11_init_159 (by decide) ?_
  refine lv_iload_n hx hb dX11_init_138 rfl (lv_at hl 0 rfl) ?_
  refine lv_iconst (v := 4) hx hb dX11_init_139 (by decide) ?_
  refine lv_icmp_ge (tgt := 162) hx hb dX11_init_140 (by decide) (fun c9 => absurd c9 (by decide)) (fun _ => ?_)
  refine lv_aload_n hx hb dX11_init_143 rfl (lv_at hl 1 rfl) ?_
  refine k_gq hx hb hts hown hK hKS fq_11_4 mw_2_211 dX11_init_144 ?_
  refine lv_iload_n hx hb dX11_init_147 rfl (lv_at hl 0 rfl) ?_
  refine k_no (t := 15) (ci := 10) (TT := TX10) hx hb hts lay10 tyX10_ok hown mw_1_223 mw_1_224 mw_1_6 hK hKS hS hA rfl rfl (fun j hj => by rcases (show j = 0 ∨ j = 1 ∨ j = 2 ∨ j = 3 ∨ j = 4 ∨ j = 5 ∨ j = 6 ∨ j = 7 ∨ j = 8 by omega) with rfl | rfl | rfl | rfl | rfl | rfl | rfl | rfl | rfl <;> rfl) (Nat.le_of_ble_eq_true rfl) (Nat.le_of_ble_eq_true rfl) dX11_init_148 (fun q_19 L1 T1 r1 σ1 ρ1 H hKS mq_19 tq_19 zq_19 nq_19 pq_19 hS => ?_)
  refine W.widen (k := 302) (n := 8674) (Nat.le_of_ble_eq_true rfl) (Nat.le_of_ble_eq_true rfl) ?_
  refine lv_dup hx hb dX11_init_151 rfl ?_
  refine k_ci (va_runIN (As := []) (rest := [.ref q_19, .int 2, .ref q_5]) ⟨hx, hb, hml, hown, hts⟩ (kk_X10_init_15 l D cA _ _ _ _ _ hKS.2.1.1 _ q_19 mq_19 tq_19 zq_19) (cIN hts mi_X10_init hN (show (RX11, 31, yX10_init, RX11) ∈ nwL by decide +kernel) rfl rfl ⟨Nat.le_of_ble_eq_true rfl, Nat.le_of_ble_eq_true rfl⟩) (pS hKS.1 hK hN) rfl rfl hl.1 rfl (lv_room (Nat.le_of_ble_eq_true rfl)) dX11_init_152 ⟨Nat.le_of_ble_eq_true rfl, Nat.le_of_ble_eq_true rfl⟩) hKS mq_19 nq_19 pq_19 hA hS tq_19 (fun L1 T1 r1 σ1 ρ1 H locs hKS mq_19 tq_19 hS => ?_)
  refine W.widen (k := 326) (n := 8919) (Nat.le_of_ble_eq_true rfl) (Nat.le_of_ble_eq_true rfl) ?_
  refine k_ab (rr := (RX10, TX10, 9)) hx hb hK hKS hS ar_60 (show fT 60 2 = some 15 from rfl) rfl mq_19 tq_19 rfl rfl (i_in (by decide) (by decide)) (by decide) (fun _ h => by cases h) dX11_init_155 (fun r1 H locs hKS hS => ?_)
  refine lv_iinc (v := 3) (lv' := [(1, .int 3), (0, .ref h0)]) hx hb dX11_init_156 hl (k := 0) rfl (by decide) (by decide) rfl (fun ls hl => ?_)
  refine lv_goto (tgt := 138) hx hb dX11_init_159 (by decide) ?_
  refine lv_iload_n hx hb dX11_init_138 rfl (lv_at hl 0 rfl) ?_
  refine lv_iconst (v := 4) hx hb dX11_init_139 (by decide) ?_
  refine lv_icmp_ge (tgt := 162) hx hb dX11_init_140 (by decide) (fun c9 => absurd c9 (by decide)) (fun _ => ?_)
  refine lv_aload_n hx hb dX11_init_143 rfl (lv_at hl 1 rfl) ?_
  refine k_gq hx hb hts hown hK hKS fq_11_4 mw_2_211 dX11_init_144 ?_
  refine lv_iload_n hx hb dX11_init_147 rfl (lv_at hl 0 rfl) ?_
  refine k_no (t := 16) (ci := 10) (TT := TX10) hx hb hts lay10 tyX10_ok hown mw_1_223 mw_1_224 mw_1_6 hK hKS hS hA rfl rfl (fun j hj => by rcases (show j = 0 ∨ j = 1 ∨ j = 2 ∨ j = 3 ∨ j = 4 ∨ j = 5 ∨ j = 6 ∨ j = 7 ∨ j = 8 by omega) with rfl | rfl | rfl | rfl | rfl | rfl | rfl | rfl | rfl <;> rfl) (Nat.le_of_ble_eq_true rfl) (Nat.le_of_ble_eq_true rfl) dX11_init_148 (fun q_20 L1 T1 r1 σ1 ρ1 H hKS mq_20 tq_20 zq_20 nq_20 pq_20 hS => ?_)
  refine W.widen (k := 327) (n := 8928) (Nat.le_of_ble_eq_true rfl) (Nat.le_of_ble_eq_true rfl) ?_
  refine lv_dup hx hb dX11_init_151 rfl ?_
  refine k_ci (va_runIN (As := []) (rest := [.ref q_20, .int 3, .ref q_5]) ⟨hx, hb, hml, hown, hts⟩ (kk_X10_init_16 l D cA _ _ _ _ _ hKS.2.1.1 _ q_20 mq_20 tq_20 zq_20) (cIN hts mi_X10_init hN (show (RX11, 31, yX10_init, RX11) ∈ nwL by decide +kernel) rfl rfl ⟨Nat.le_of_ble_eq_true rfl, Nat.le_of_ble_eq_true rfl⟩) (pS hKS.1 hK hN) rfl rfl hl.1 rfl (lv_room (Nat.le_of_ble_eq_true rfl)) dX11_init_152 ⟨Nat.le_of_ble_eq_true rfl, Nat.le_of_ble_eq_true rfl⟩) hKS mq_20 nq_20 pq_20 hA hS tq_20 (fun L1 T1 r1 σ1 ρ1 H locs hKS mq_20 tq_20 hS => ?_)
  refine W.widen (k := 351) (n := 9173) (Nat.le_of_ble_eq_true rfl) (Nat.le_of_ble_eq_true rfl) ?_
  refine k_ab (rr := (RX10, TX10, 9)) hx hb hK hKS hS ar_60 (show fT 60 3 = some 16 from rfl) rfl mq_20 tq_20 rfl rfl (i_in (by decide) (by decide)) (by decide) (fun _ h => by cases h) dX11_init_155 (fun r1 H locs hKS hS => ?_)
  have hKS := hKS.full (fun j t9 h9 => match j, h9 with | 0, _ => by decide | 1, _ => by decide | 2, _ => by decide | 3, _ => by decide | j + 4, h => nomatch h) (fun j => i0_60 j)
  refine lv_iinc (v := 4) (lv' := [(1, .int 4), (0, .ref h0)]) hx hb dX11_init_156 hl (k := 0) rfl (by decide) (by decide) rfl (fun ls hl => ?_)
  refine lv_goto (tgt := 138) hx hb dX11_init_159 (by decide) ?_
  refine lv_iload_n hx hb dX11_init_138 rfl (lv_at hl 0 rfl) ?_
  refine lv_iconst (v := 4) hx hb dX11_init_139 (by decide) ?_
  refine lv_icmp_ge (tgt := 162) hx hb dX11_init_140 (by decide) (fun _ => ?_) (fun c9 => absurd (by decide) c9)
  exact W.vret hx hb hr (fun t ht hW => ⟨⟨(), rfl, trivial, hKS.end hn_11 hf_11 ht⟩, hS.F ht⟩) hS.2.2 dX11_init_162
theorem mw_5_215 : (.methodLink RX12 1 objectInit : Cond) ∈ wsA := wsA_t (List.mem_append_right _ (List.mem_append_right _ (List.mem_append_right _ (List.mem_append_right _ (List.mem_append_left _ (List.mem_of_getElem? (l := tables_1_5) (i := 215) rfl)))))) rfl
theorem mw_4_14 : (.arrayClass .byte : Cond) ∈ wsA := wsA_t (List.mem_append_right _ (List.mem_append_right _ (List.mem_append_right _ (List.mem_append_left _ (List.mem_of_getElem? (l := tables_1_4) (i := 14) rfl))))) rfl
theorem mw_6_109 : (.arrayClass .boolean : Cond) ∈ wsA := wsA_t (List.mem_append_right _ (List.mem_append_right _ (List.mem_append_right _ (List.mem_append_right _ (List.mem_append_right _ (List.mem_append_left _ (List.mem_of_getElem? (l := tables_1_6) (i := 109) rfl))))))) rfl
theorem dX12_init_0 : decode cX12_init 0 = .ok (.aload_n 0, 1) := by decide +kernel
theorem dX12_init_1 : decode cX12_init 1 = .ok (.invokespecial 1, 3) := by decide +kernel
theorem dX12_init_4 : decode cX12_init 4 = .ok (.aload_n 0, 1) := by decide +kernel
theorem dX12_init_5 : decode cX12_init 5 = .ok (.sipush 400, 3) := by decide +kernel
theorem dX12_init_8 : decode cX12_init 8 = .ok (.newarray .byte, 2) := by decide +kernel
theorem dX12_init_10 : decode cX12_init 10 = .ok (.putfield 7, 3) := by decide +kernel
theorem dX12_init_13 : decode cX12_init 13 = .ok (.aload_n 0, 1) := by decide +kernel
theorem dX12_init_14 : decode cX12_init 14 = .ok (.sipush 2400, 3) := by decide +kernel
theorem dX12_init_17 : decode cX12_init 17 = .ok (.newarray .int, 2) := by decide +kernel
theorem dX12_init_19 : decode cX12_init 19 = .ok (.putfield 13, 3) := by decide +kernel
theorem dX12_init_22 : decode cX12_init 22 = .ok (.aload_n 0, 1) := by decide +kernel
theorem dX12_init_23 : decode cX12_init 23 = .ok (.bipush 7, 2) := by decide +kernel
theorem dX12_init_25 : decode cX12_init 25 = .ok (.newarray .int, 2) := by decide +kernel
theorem dX12_init_27 : decode cX12_init 27 = .ok (.putfield 17, 3) := by decide +kernel
theorem dX12_init_30 : decode cX12_init 30 = .ok (.aload_n 0, 1) := by decide +kernel
theorem dX12_init_31 : decode cX12_init 31 = .ok (.sipush 288, 3) := by decide +kernel
theorem dX12_init_34 : decode cX12_init 34 = .ok (.newarray .int, 2) := by decide +kernel
theorem dX12_init_36 : decode cX12_init 36 = .ok (.putfield 20, 3) := by decide +kernel
theorem dX12_init_39 : decode cX12_init 39 = .ok (.aload_n 0, 1) := by decide +kernel
theorem dX12_init_40 : decode cX12_init 40 = .ok (.bipush 6, 2) := by decide +kernel
theorem dX12_init_42 : decode cX12_init 42 = .ok (.newarray .int, 2) := by decide +kernel
theorem dX12_init_44 : decode cX12_init 44 = .ok (.putfield 23, 3) := by decide +kernel
theorem dX12_init_47 : decode cX12_init 47 = .ok (.aload_n 0, 1) := by decide +kernel
theorem dX12_init_48 : decode cX12_init 48 = .ok (.sipush 165, 3) := by decide +kernel
theorem dX12_init_51 : decode cX12_init 51 = .ok (.newarray .int, 2) := by decide +kernel
theorem dX12_init_53 : decode cX12_init 53 = .ok (.putfield 26, 3) := by decide +kernel
theorem dX12_init_56 : decode cX12_init 56 = .ok (.aload_n 0, 1) := by decide +kernel
theorem dX12_init_57 : decode cX12_init 57 = .ok (.sipush 400, 3) := by decide +kernel
theorem dX12_init_60 : decode cX12_init 60 = .ok (.newarray .int, 2) := by decide +kernel
theorem dX12_init_62 : decode cX12_init 62 = .ok (.putfield 29, 3) := by decide +kernel
theorem dX12_init_65 : decode cX12_init 65 = .ok (.aload_n 0, 1) := by decide +kernel
theorem dX12_init_66 : decode cX12_init 66 = .ok (.bipush 64, 2) := by decide +kernel
theorem dX12_init_68 : decode cX12_init 68 = .ok (.newarray .long, 2) := by decide +kernel
theorem dX12_init_70 : decode cX12_init 70 = .ok (.putfield 32, 3) := by decide +kernel
theorem dX12_init_73 : decode cX12_init 73 = .ok (.aload_n 0, 1) := by decide +kernel
theorem dX12_init_74 : decode cX12_init 74 = .ok (.bipush 10, 2) := by decide +kernel
theorem dX12_init_76 : decode cX12_init 76 = .ok (.newarray .long, 2) := by decide +kernel
theorem dX12_init_78 : decode cX12_init 78 = .ok (.putfield 36, 3) := by decide +kernel
theorem dX12_init_81 : decode cX12_init 81 = .ok (.aload_n 0, 1) := by decide +kernel
theorem dX12_init_82 : decode cX12_init 82 = .ok (.sipush 201, 3) := by decide +kernel
theorem dX12_init_85 : decode cX12_init 85 = .ok (.newarray .int, 2) := by decide +kernel
theorem dX12_init_87 : decode cX12_init 87 = .ok (.putfield 39, 3) := by decide +kernel
theorem dX12_init_90 : decode cX12_init 90 = .ok (.aload_n 0, 1) := by decide +kernel
theorem dX12_init_91 : decode cX12_init 91 = .ok (.iconst (-1), 1) := by decide +kernel
theorem dX12_init_92 : decode cX12_init 92 = .ok (.putfield 42, 3) := by decide +kernel
theorem dX12_init_95 : decode cX12_init 95 = .ok (.aload_n 0, 1) := by decide +kernel
theorem dX12_init_96 : decode cX12_init 96 = .ok (.bipush 8, 2) := by decide +kernel
theorem dX12_init_98 : decode cX12_init 98 = .ok (.newarray .int, 2) := by decide +kernel
theorem dX12_init_100 : decode cX12_init 100 = .ok (.putfield 46, 3) := by decide +kernel
theorem dX12_init_103 : decode cX12_init 103 = .ok (.aload_n 0, 1) := by decide +kernel
theorem dX12_init_104 : decode cX12_init 104 = .ok (.sipush 1880, 3) := by decide +kernel
theorem dX12_init_107 : decode cX12_init 107 = .ok (.newarray .int, 2) := by decide +kernel
theorem dX12_init_109 : decode cX12_init 109 = .ok (.putfield 49, 3) := by decide +kernel
theorem dX12_init_112 : decode cX12_init 112 = .ok (.aload_n 0, 1) := by decide +kernel
theorem dX12_init_113 : decode cX12_init 113 = .ok (.iconst 5, 1) := by decide +kernel
theorem dX12_init_114 : decode cX12_init 114 = .ok (.newarray .int, 2) := by decide +kernel
theorem dX12_init_116 : decode cX12_init 116 = .ok (.putfield 52, 3) := by decide +kernel
theorem dX12_init_119 : decode cX12_init 119 = .ok (.aload_n 0, 1) := by decide +kernel
theorem dX12_init_120 : decode cX12_init 120 = .ok (.iconst 5, 1) := by decide +kernel
theorem dX12_init_121 : decode cX12_init 121 = .ok (.newarray .int, 2) := by decide +kernel
theorem dX12_init_123 : decode cX12_init 123 = .ok (.putfield 55, 3) := by decide +kernel
theorem dX12_init_126 : decode cX12_init 126 = .ok (.aload_n 0, 1) := by decide +kernel
theorem dX12_init_127 : decode cX12_init 127 = .ok (.iconst 5, 1) := by decide +kernel
theorem dX12_init_128 : decode cX12_init 128 = .ok (.newarray .int, 2) := by decide +kernel
theorem dX12_init_130 : decode cX12_init 130 = .ok (.putfield 58, 3) := by decide +kernel
theorem dX12_init_133 : decode cX12_init 133 = .ok (.aload_n 0, 1) := by decide +kernel
theorem dX12_init_134 : decode cX12_init 134 = .ok (.iconst 5, 1) := by decide +kernel
theorem dX12_init_135 : decode cX12_init 135 = .ok (.newarray .int, 2) := by decide +kernel
theorem dX12_init_137 : decode cX12_init 137 = .ok (.putfield 61, 3) := by decide +kernel
theorem dX12_init_140 : decode cX12_init 140 = .ok (.aload_n 0, 1) := by decide +kernel
theorem dX12_init_141 : decode cX12_init 141 = .ok (.iconst 5, 1) := by decide +kernel
theorem dX12_init_142 : decode cX12_init 142 = .ok (.newarray .int, 2) := by decide +kernel
theorem dX12_init_144 : decode cX12_init 144 = .ok (.putfield 64, 3) := by decide +kernel
theorem dX12_init_147 : decode cX12_init 147 = .ok (.aload_n 0, 1) := by decide +kernel
theorem dX12_init_148 : decode cX12_init 148 = .ok (.bipush 8, 2) := by decide +kernel
theorem dX12_init_150 : decode cX12_init 150 = .ok (.newarray .int, 2) := by decide +kernel
theorem dX12_init_152 : decode cX12_init 152 = .ok (.putfield 67, 3) := by decide +kernel
theorem dX12_init_155 : decode cX12_init 155 = .ok (.aload_n 0, 1) := by decide +kernel
theorem dX12_init_156 : decode cX12_init 156 = .ok (.bipush 94, 2) := by decide +kernel
theorem dX12_init_158 : decode cX12_init 158 = .ok (.newarray .int, 2) := by decide +kernel
theorem dX12_init_160 : decode cX12_init 160 = .ok (.putfield 70, 3) := by decide +kernel
theorem dX12_init_163 : decode cX12_init 163 = .ok (.aload_n 0, 1) := by decide +kernel
theorem dX12_init_164 : decode cX12_init 164 = .ok (.bipush 7, 2) := by decide +kernel
theorem dX12_init_166 : decode cX12_init 166 = .ok (.newarray .boolean, 2) := by decide +kernel
theorem dX12_init_168 : decode cX12_init 168 = .ok (.putfield 73, 3) := by decide +kernel
theorem dX12_init_171 : decode cX12_init 171 = .ok (.aload_n 0, 1) := by decide +kernel
theorem dX12_init_172 : decode cX12_init 172 = .ok (.bipush 56, 2) := by decide +kernel
theorem dX12_init_174 : decode cX12_init 174 = .ok (.newarray .int, 2) := by decide +kernel
theorem dX12_init_176 : decode cX12_init 176 = .ok (.putfield 77, 3) := by decide +kernel
theorem dX12_init_179 : decode cX12_init 179 = .ok (.aload_n 0, 1) := by decide +kernel
theorem dX12_init_180 : decode cX12_init 180 = .ok (.sipush 804, 3) := by decide +kernel
theorem dX12_init_183 : decode cX12_init 183 = .ok (.newarray .int, 2) := by decide +kernel
theorem dX12_init_185 : decode cX12_init 185 = .ok (.putfield 80, 3) := by decide +kernel
theorem dX12_init_188 : decode cX12_init 188 = .ok (.aload_n 0, 1) := by decide +kernel
theorem dX12_init_189 : decode cX12_init 189 = .ok (.iconst 4, 1) := by decide +kernel
theorem dX12_init_190 : decode cX12_init 190 = .ok (.newarray .int, 2) := by decide +kernel
theorem dX12_init_192 : decode cX12_init 192 = .ok (.putfield 83, 3) := by decide +kernel
theorem dX12_init_195 : decode cX12_init 195 = .ok (.aload_n 0, 1) := by decide +kernel
theorem dX12_init_196 : decode cX12_init 196 = .ok (.iconst 4, 1) := by decide +kernel
theorem dX12_init_197 : decode cX12_init 197 = .ok (.newarray .int, 2) := by decide +kernel
theorem dX12_init_199 : decode cX12_init 199 = .ok (.putfield 86, 3) := by decide +kernel
theorem dX12_init_202 : decode cX12_init 202 = .ok (.aload_n 0, 1) := by decide +kernel
theorem dX12_init_203 : decode cX12_init 203 = .ok (.iconst 4, 1) := by decide +kernel
theorem dX12_init_204 : decode cX12_init 204 = .ok (.newarray .boolean, 2) := by decide +kernel
theorem dX12_init_206 : decode cX12_init 206 = .ok (.putfield 89, 3) := by decide +kernel
theorem dX12_init_209 : decode cX12_init 209 = .ok (.return_, 1) := by decide +kernel
theorem hn_12 : ∀ k t : Nat, fT 12 k = some t → k < 44 := fun k t h => match k, h with | 0, h => by decide | 1, h => nomatch h | 2, h => nomatch h | 3, h => by decide | 4, h => by decide | 5, h => by decide | 6, h => by decide | 7, h => by decide | 8, h => nomatch h | 9, h => nomatch h | 10, h => nomatch h | 11, h => nomatch h | 12, h => nomatch h | 13, h => nomatch h | 14, h => nomatch h | 15, h => by decide | 16, h => nomatch h | 17, h => by decide | 18, h => nomatch h | 19, h => by decide | 20, h => by decide | 21, h => nomatch h | 22, h => nomatch h | 23, h => by decide | 24, h => by decide | 25, h => nomatch h | 26, h => by decide | 27, h => by decide | 28, h => by decide | 29, h => by decide | 30, h => nomatch h | 31, h => nomatch h | 32, h => by decide | 33, h => nomatch h | 34, h => nomatch h | 35, h => by decide | 36, h => by decide | 37, h => by decide | 38, h => by decide | 39, h => nomatch h | 40, h => by decide | 41, h => by decide | 42, h => by decide | 43, h => by decide | k + 44, h => nomatch h
theorem hf_12 : ∀ j : Nat, va_up (fun _ => (0 : Int32)) 21 (-1) j = ini 12 j := fun j => by unfold ini va_up; by_cases hj : j = 21 <;> simp [hj]
set_option maxHeartbeats 4000000 in
set_option maxRecDepth 100000 in
theorem kk_X12_init_12 (l : Launch) (D : va_G) (cA : Nat → ClassId) (L : List Nat) (T : Nat → Nat) (r : Rg) (σ : Sg) (ρ : Lg) (hL : L.Nodup) (sz : Nat) (h0 : Nat) (mh0 : h0 ∈ L) (th0 : T h0 = 12) (z0 : ∀ j, σ h0 j = 0) : Met l yX12_init (.code yX12_init cX12_init 1 none :: wsA) ({ frames := 1, cells := 25, slots := 6835, locals := 40 }) (PR D cA L T r σ ρ sz [.ref h0]) (va_Qv (fun _ : Unit => True) (fun _ t => KQ D cA L T r σ h0 sz t) (dm L sz)) 25 6835 (dm L sz) := by
  refine Met.ofW (cc := cX12_init) (maxL := 1) (ret := none) (by decide) rfl ?_
  intro p e s m args below meth c s₁ B hml hv
  obtain ⟨rfl, hsz, hP, hK, hN⟩ := hv
  have hx := B.exec
  have hb := B.bytes
  have hr := B.returns
  have hts : ∀ w ∈ wsA, w.before _ s = true := fun w h => atoms_spec (ws := .code yX12_init cX12_init 1 none :: wsA) B.pre w (List.mem_cons_of_mem _ h)
  have hown : s.vm.findClass RX12 = some m.cls := findClass_of_methodNamed B.named
  have hin : meth.name = "<init>" := (name_of_methodNamed B.named B.method).1
  subst hsz
  have hKS := KS.begin (sz := s.heap.size) hP ⟨hL, fun a h => Or.inl h⟩ mh0 th0 z0
  have hA : ∀ q : Nat, s.heap.size ≤ q → dm L s.heap.size q := fun q h => Or.inr h
  have hS : va_S (dm L s.heap.size) s.heap s.heap [] := va_S.rf
  have hl := lv_entry ([.ref h0]) (n := 1) (Nat.le_of_ble_eq_true rfl)
  rw [lg_entry_eq]
  generalize (lg_sl ([.ref h0]) ++ List.replicate (1 - (lg_sl ([.ref h0])).length) Slot.unset).toArray = ls at hl ⊢
  have hl : lv_has ls 1 [(0, .ref h0)] := hl
  refine lv_aload_n hx hb dX12_init_0 rfl (lv_at hl 0 rfl) ?_
  refine W.objInit hx hb hown (hts _ mw_5_215) (hts _ mw_1_28) (hts _ mw_1_29) rfl (by rw [hml]; exact hl.1) rfl dX12_init_1 (Nat.le_of_ble_eq_true rfl) (Nat.le_of_ble_eq_true rfl) ?_
  refine W.eq (g2 := F0 m 4 ls []) rfl ?_
  refine lv_aload_n hx hb dX12_init_4 rfl (lv_at hl 0 rfl) ?_
  refine lv_sipush (v := 400) hx hb dX12_init_5 (by decide) ?_
  refine k_na (atype := .byte) (t := 61) (ki := 0) (a0 := (400, .inl (fun _ => 0))) hx hb hts mw_4_14 rfl (fun C h => by cases h) hK rfl hKS hS hA rfl (fun _ => rfl) (fun j => i0_61 j) (fun _ => rfl) (by decide) rfl (by decide) (Nat.le_of_ble_eq_true rfl) (Nat.le_of_ble_eq_true rfl) dX12_init_8 (fun q_1 L1 T1 r1 σ1 ρ1 H hKS mq_1 tq_1 hS => ?_)
  refine W.widen (k := 1) (n := 400) (Nat.le_of_ble_eq_true rfl) (Nat.le_of_ble_eq_true rfl) ?_
  refine k_pr hx hb hts hown hin hK hKS hS mq_1 tq_1 fq_12_0 rfl rfl rfl rfl (fun i h1 h2 => absurd h2 (by omega)) (fun _ h => by cases h) mw_5_216 dX12_init_10 (fun r1 H locs hKS _ _ hS => ?_)
  refine lv_aload_n hx hb dX12_init_13 rfl (lv_at hl 0 rfl) ?_
  refine lv_sipush (v := 2400) hx hb dX12_init_14 (by decide) ?_
  refine k_na (atype := .int) (t := 62) (ki := 1) (a0 := (2400, .inl (fun _ => 0))) hx hb hts mw_1_61 rfl (fun C h => by cases h) hK rfl hKS hS hA rfl (fun _ => rfl) (fun j => i0_62 j) (fun _ => rfl) (by decide) rfl (by decide) (Nat.le_of_ble_eq_true rfl) (Nat.le_of_ble_eq_true rfl) dX12_init_17 (fun q_2 L1 T1 r1 σ1 ρ1 H hKS mq_2 tq_2 hS => ?_)
  refine W.widen (k := 2) (n := 2800) (Nat.le_of_ble_eq_true rfl) (Nat.le_of_ble_eq_true rfl) ?_
  refine k_pr hx hb hts hown hin hK hKS hS mq_2 tq_2 fq_12_3 rfl rfl rfl rfl (fun i h1 h2 => by rcases (show i = 1 ∨ i = 2 by omega) with rfl | rfl <;> rfl) (fun _ h => by cases h) mw_5_219 dX12_init_19 (fun r1 H locs hKS _ _ hS => ?_)
  refine lv_aload_n hx hb dX12_init_22 rfl (lv_at hl 0 rfl) ?_
  refine lv_bipush (v := 7) hx hb dX12_init_23 (by decide) ?_
  refine k_na (atype := .int) (t := 63) (ki := 1) (a0 := (7, .inl (fun _ => 0))) hx hb hts mw_1_61 rfl (fun C h => by cases h) hK rfl hKS hS hA rfl (fun _ => rfl) (fun j => i0_63 j) (fun _ => rfl) (by decide) rfl (by decide) (Nat.le_of_ble_eq_true rfl) (Nat.le_of_ble_eq_true rfl) dX12_init_25 (fun q_3 L1 T1 r1 σ1 ρ1 H hKS mq_3 tq_3 hS => ?_)
  refine W.widen (k := 3) (n := 2807) (Nat.le_of_ble_eq_true rfl) (Nat.le_of_ble_eq_true rfl) ?_
  refine k_pr hx hb hts hown hin hK hKS hS mq_3 tq_3 fq_12_4 rfl rfl rfl rfl (fun i h1 h2 => absurd h2 (by omega)) (fun _ h => by cases h) mw_5_220 dX12_init_27 (fun r1 H locs hKS _ _ hS => ?_)
  refine lv_aload_n hx hb dX12_init_30 rfl (lv_at hl 0 rfl) ?_
  refine lv_sipush (v := 288) hx hb dX12_init_31 (by decide) ?_
  refine k_na (atype := .int) (t := 64) (ki := 1) (a0 := (288, .inl (fun _ => 0))) hx hb hts mw_1_61 rfl (fun C h => by cases h) hK rfl hKS hS hA rfl (fun _ => rfl) (fun j => i0_64 j) (fun _ => rfl) (by decide) rfl (by decide) (Nat.le_of_ble_eq_true rfl) (Nat.le_of_ble_eq_true rfl) dX12_init_34 (fun q_4 L1 T1 r1 σ1 ρ1 H hKS mq_4 tq_4 hS => ?_)
  refine W.widen (k := 4) (n := 3095) (Nat.le_of_ble_eq_true rfl) (Nat.le_of_ble_eq_true rfl) ?_
  refine k_pr hx hb hts hown hin hK hKS hS mq_4 tq_4 fq_12_5 rfl rfl rfl rfl (fun i h1 h2 => absurd h2 (by omega)) (fun _ h => by cases h) mw_5_221 dX12_init_36 (fun r1 H locs hKS _ _ hS => ?_)
  refine lv_aload_n hx hb dX12_init_39 rfl (lv_at hl 0 rfl) ?_
  refine lv_bipush (v := 6) hx hb dX12_init_40 (by decide) ?_
  refine k_na (atype := .int) (t := 65) (ki := 1) (a0 := (6, .inl (fun _ => 0))) hx hb hts mw_1_61 rfl (fun C h => by cases h) hK rfl hKS hS hA rfl (fun _ => rfl) (fun j => i0_65 j) (fun _ => rfl) (by decide) rfl (by decide) (Nat.le_of_ble_eq_true rfl) (Nat.le_of_ble_eq_true rfl) dX12_init_42 (fun q_5 L1 T1 r1 σ1 ρ1 H hKS mq_5 tq_5 hS => ?_)
  refine W.widen (k := 5) (n := 3101) (Nat.le_of_ble_eq_true rfl) (Nat.le_of_ble_eq_true rfl) ?_
  refine k_pr hx hb hts hown hin hK hKS hS mq_5 tq_5 fq_12_6 rfl rfl rfl rfl (fun i h1 h2 => absurd h2 (by omega)) (fun _ h => by cases h) mw_5_222 dX12_init_44 (fun r1 H locs hKS _ _ hS => ?_)
  refine lv_aload_n hx hb dX12_init_47 rfl (lv_at hl 0 rfl) ?_
  refine lv_sipush (v := 165) hx hb dX12_init_48 (by decide) ?_
  refine k_na (atype := .int) (t := 66) (ki := 1) (a0 := (165, .inl (fun _ => 0))) hx hb hts mw_1_61 rfl (fun C h => by cases h) hK rfl hKS hS hA rfl (fun _ => rfl) (fun j => i0_66 j) (fun _ => rfl) (by decide) rfl (by decide) (Nat.le_of_ble_eq_true rfl) (Nat.le_of_ble_eq_true rfl) dX12_init_51 (fun q_6 L1 T1 r1 σ1 ρ1 H hKS mq_6 tq_6 hS => ?_)
  refine W.widen (k := 6) (n := 3266) (Nat.le_of_ble_eq_true rfl) (Nat.le_of_ble_eq_true rfl) ?_
  refine k_pr hx hb hts hown hin hK hKS hS mq_6 tq_6 fq_12_7 rfl rfl rfl rfl (fun i h1 h2 => absurd h2 (by omega)) (fun _ h => by cases h) mw_5_223 dX12_init_53 (fun r1 H locs hKS _ _ hS => ?_)
  refine lv_aload_n hx hb dX12_init_56 rfl (lv_at hl 0 rfl) ?_
  refine lv_sipush (v := 400) hx hb dX12_init_57 (by decide) ?_
  refine k_na (atype := .int) (t := 67) (ki := 1) (a0 := (400, .inl (fun _ => 0))) hx hb hts mw_1_61 rfl (fun C h => by cases h) hK rfl hKS hS hA rfl (fun _ => rfl) (fun j => i0_67 j) (fun _ => rfl) (by decide) rfl (by decide) (Nat.le_of_ble_eq_true rfl) (Nat.le_of_ble_eq_true rfl) dX12_init_60 (fun q_7 L1 T1 r1 σ1 ρ1 H hKS mq_7 tq_7 hS => ?_)
  refine W.widen (k := 7) (n := 3666) (Nat.le_of_ble_eq_true rfl) (Nat.le_of_ble_eq_true rfl) ?_
  refine k_pr hx hb hts hown hin hK hKS hS mq_7 tq_7 fq_12_15 rfl rfl rfl rfl (fun i h1 h2 => by rcases (show i = 8 ∨ i = 9 ∨ i = 10 ∨ i = 11 ∨ i = 12 ∨ i = 13 ∨ i = 14 by omega) with rfl | rfl | rfl | rfl | rfl | rfl | rfl <;> rfl) (fun _ h => by cases h) mw_5_231 dX12_init_62 (fun r1 H locs hKS _ _ hS => ?_)
  refine lv_aload_n hx hb dX12_init_65 rfl (lv_at hl 0 rfl) ?_
  refine lv_bipush (v := 64) hx hb dX12_init_66 (by decide) ?_
  refine k_na (atype := .long) (t := 68) (ki := 2) (a0 := (64, .inr (.inl (fun _ => 0)))) hx hb hts mw_2_88 rfl (fun C h => by cases h) hK rfl hKS hS hA rfl (fun _ => rfl) (fun j => i0_68 j) (fun _ => rfl) (by decide) rfl (by decide) (Nat.le_of_ble_eq_true rfl) (Nat.le_of_ble_eq_true rfl) dX12_init_68 (fun q_8 L1 T1 r1 σ1 ρ1 H hKS mq_8 tq_8 hS => ?_)
  refine W.widen (k := 8) (n := 3730) (Nat.le_of_ble_eq_true rfl) (Nat.le_of_ble_eq_true rfl) ?_
  refine k_pr hx hb hts hown hin hK hKS hS mq_8 tq_8 fq_12_17 rfl rfl rfl rfl (fun i h1 h2 => by rcases (show i = 16 by omega) with rfl <;> rfl) (fun _ h => by cases h) mw_5_233 dX12_init_70 (fun r1 H locs hKS _ _ hS => ?_)
  refine lv_aload_n hx hb dX12_init_73 rfl (lv_at hl 0 rfl) ?_
  refine lv_bipush (v := 10) hx hb dX12_init_74 (by decide) ?_
  refine k_na (atype := .long) (t := 69) (ki := 2) (a0 := (10, .inr (.inl (fun _ => 0)))) hx hb hts mw_2_88 rfl (fun C h => by cases h) hK rfl hKS hS hA rfl (fun _ => rfl) (fun j => i0_69 j) (fun _ => rfl) (by decide) rfl (by decide) (Nat.le_of_ble_eq_true rfl) (Nat.le_of_ble_eq_true rfl) dX12_init_76 (fun q_9 L1 T1 r1 σ1 ρ1 H hKS mq_9 tq_9 hS => ?_)
  refine W.widen (k := 9) (n := 3740) (Nat.le_of_ble_eq_true rfl) (Nat.le_of_ble_eq_true rfl) ?_
  refine k_pr hx hb hts hown hin hK hKS hS mq_9 tq_9 fq_12_19 rfl rfl rfl rfl (fun i h1 h2 => by rcases (show i = 18 by omega) with rfl <;> rfl) (fun _ h => by cases h) mw_5_235 dX12_init_78 (fun r1 H locs hKS _ _ hS => ?_)
  refine lv_aload_n hx hb dX12_init_81 rfl (lv_at hl 0 rfl) ?_
  refine lv_sipush (v := 201) hx hb dX12_init_82 (by decide) ?_
  refine k_na (atype := .int) (t := 70) (ki := 1) (a0 := (201, .inl (fun _ => 0))) hx hb hts mw_1_61 rfl (fun C h => by cases h) hK rfl hKS hS hA rfl (fun _ => rfl) (fun j => i0_70 j) (fun _ => rfl) (by decide) rfl (by decide) (Nat.le_of_ble_eq_true rfl) (Nat.le_of_ble_eq_true rfl) dX12_init_85 (fun q_10 L1 T1 r1 σ1 ρ1 H hKS mq_10 tq_10 hS => ?_)
  refine W.widen (k := 10) (n := 3941) (Nat.le_of_ble_eq_true rfl) (Nat.le_of_ble_eq_true rfl) ?_
  refine k_pr hx hb hts hown hin hK hKS hS mq_10 tq_10 fq_12_20 rfl rfl rfl rfl (fun i h1 h2 => absurd h2 (by omega)) (fun _ h => by cases h) mw_5_236 dX12_init_87 (fun r1 H locs hKS _ _ hS => ?_)
  refine lv_aload_n hx hb dX12_init_90 rfl (lv_at hl 0 rfl) ?_
  refine lv_iconst (v := (-1)) hx hb dX12_init_91 (by decide) ?_
  refine k_pi hx hb hts hown hK hKS hS fi_12_21 rfl rfl mw_5_237 dX12_init_92 (fun σ1 H locs hKS hS => ?_)
  refine lv_aload_n hx hb dX12_init_95 rfl (lv_at hl 0 rfl) ?_
  refine lv_bipush (v := 8) hx hb dX12_init_96 (by decide) ?_
  refine k_na (atype := .int) (t := 71) (ki := 1) (a0 := (8, .inl (fun _ => 0))) hx hb hts mw_1_61 rfl (fun C h => by cases h) hK rfl hKS hS hA rfl (fun _ => rfl) (fun j => i0_71 j) (fun _ => rfl) (by decide) rfl (by decide) (Nat.le_of_ble_eq_true rfl) (Nat.le_of_ble_eq_true rfl) dX12_init_98 (fun q_11 L1 T1 r1 σ1 ρ1 H hKS mq_11 tq_11 hS => ?_)
  refine W.widen (k := 11) (n := 3949) (Nat.le_of_ble_eq_true rfl) (Nat.le_of_ble_eq_true rfl) ?_
  refine k_pr hx hb hts hown hin hK hKS hS mq_11 tq_11 fq_12_23 rfl rfl rfl rfl (fun i h1 h2 => by rcases (show i = 21 ∨ i = 22 by omega) with rfl | rfl <;> rfl) (fun _ h => by cases h) mw_5_239 dX12_init_100 (fun r1 H locs hKS _ _ hS => ?_)
  refine lv_aload_n hx hb dX12_init_103 rfl (lv_at hl 0 rfl) ?_
  refine lv_sipush (v := 1880) hx hb dX12_init_104 (by decide) ?_
  refine k_na (atype := .int) (t := 72) (ki := 1) (a0 := (1880, .inl (fun _ => 0))) hx hb hts mw_1_61 rfl (fun C h => by cases h) hK rfl hKS hS hA rfl (fun _ => rfl) (fun j => i0_72 j) (fun _ => rfl) (by decide) rfl (by decide) (Nat.le_of_ble_eq_true rfl) (Nat.le_of_ble_eq_true rfl) dX12_init_107 (fun q_12 L1 T1 r1 σ1 ρ1 H hKS mq_12 tq_12 hS => ?_)
  refine W.widen (k := 12) (n := 5829) (Nat.le_of_ble_eq_true rfl) (Nat.le_of_ble_eq_true rfl) ?_
  refine k_pr hx hb hts hown hin hK hKS hS mq_12 tq_12 fq_12_24 rfl rfl rfl rfl (fun i h1 h2 => absurd h2 (by omega)) (fun _ h => by cases h) mw_6_0 dX12_init_109 (fun r1 H locs hKS _ _ hS => ?_)
  refine lv_aload_n hx hb dX12_init_112 rfl (lv_at hl 0 rfl) ?_
  refine lv_iconst (v := 5) hx hb dX12_init_113 (by decide) ?_
  refine k_na (atype := .int) (t := 73) (ki := 1) (a0 := (5, .inl (fun _ => 0))) hx hb hts mw_1_61 rfl (fun C h => by cases h) hK rfl hKS hS hA rfl (fun _ => rfl) (fun j => i0_73 j) (fun _ => rfl) (by decide) rfl (by decide) (Nat.le_of_ble_eq_true rfl) (Nat.le_of_ble_eq_true rfl) dX12_init_114 (fun q_13 L1 T1 r1 σ1 ρ1 H hKS mq_13 tq_13 hS => ?_)
  refine W.widen (k := 13) (n := 5834) (Nat.le_of_ble_eq_true rfl) (Nat.le_of_ble_eq_true rfl) ?_
  refine k_pr hx hb hts hown hin hK hKS hS mq_13 tq_13 fq_12_26 rfl rfl rfl rfl (fun i h1 h2 => by rcases (show i = 25 by omega) with rfl <;> rfl) (fun _ h => by cases h) mw_6_2 dX12_init_116 (fun r1 H locs hKS _ _ hS => ?_)
  refine lv_aload_n hx hb dX12_init_119 rfl (lv_at hl 0 rfl) ?_
  refine lv_iconst (v := 5) hx hb dX12_init_120 (by decide) ?_
  refine k_na (atype := .int) (t := 74) (ki := 1) (a0 := (5, .inl (fun _ => 0))) hx hb hts mw_1_61 rfl (fun C h => by cases h) hK rfl hKS hS hA rfl (fun _ => rfl) (fun j => i0_74 j) (fun _ => rfl) (by decide) rfl (by decide) (Nat.le_of_ble_eq_true rfl) (Nat.le_of_ble_eq_true rfl) dX12_init_121 (fun q_14 L1 T1 r1 σ1 ρ1 H hKS mq_14 tq_14 hS => ?_)
  refine W.widen (k := 14) (n := 5839) (Nat.le_of_ble_eq_true rfl) (Nat.le_of_ble_eq_true rfl) ?_
  refine k_pr hx hb hts hown hin hK hKS hS mq_14 tq_14 fq_12_27 rfl rfl rfl rfl (fun i h1 h2 => absurd h2 (by omega)) (fun _ h => by cases h) mw_6_3 dX12_init_123 (fun r1 H locs hKS _ _ hS => ?_)
  refine lv_aload_n hx hb dX12_init_126 rfl (lv_at hl 0 rfl) ?_
  refine lv_iconst (v := 5) hx hb dX12_init_127 (by decide) ?_
  refine k_na (atype := .int) (t := 75) (ki := 1) (a0 := (5, .inl (fun _ => 0))) hx hb hts mw_1_61 rfl (fun C h => by cases h) hK rfl hKS hS hA rfl (fun _ => rfl) (fun j => i0_75 j) (fun _ => rfl) (by decide) rfl (by decide) (Nat.le_of_ble_eq_true rfl) (Nat.le_of_ble_eq_true rfl) dX12_init_128 (fun q_15 L1 T1 r1 σ1 ρ1 H hKS mq_15 tq_15 hS => ?_)
  refine W.widen (k := 15) (n := 5844) (Nat.le_of_ble_eq_true rfl) (Nat.le_of_ble_eq_true rfl) ?_
  refine k_pr hx hb hts hown hin hK hKS hS mq_15 tq_15 fq_12_28 rfl rfl rfl rfl (fun i h1 h2 => absurd h2 (by omega)) (fun _ h => by cases h) mw_6_4 dX12_init_130 (fun r1 H locs hKS _ _ hS => ?_)
  refine lv_aload_n hx hb dX12_init_133 rfl (lv_at hl 0 rfl) ?_
  refine lv_iconst (v := 5) hx hb dX12_init_134 (by decide) ?_
  refine k_na (atype := .int) (t := 76) (ki := 1) (a0 := (5, .inl (fun _ => 0))) hx hb hts mw_1_61 rfl (fun C h => by cases h) hK rfl hKS hS hA rfl (fun _ => rfl) (fun j => i0_76 j) (fun _ => rfl) (by decide) rfl (by decide) (Nat.le_of_ble_eq_true rfl) (Nat.le_of_ble_eq_true rfl) dX12_init_135 (fun q_16 L1 T1 r1 σ1 ρ1 H hKS mq_16 tq_16 hS => ?_)
  refine W.widen (k := 16) (n := 5849) (Nat.le_of_ble_eq_true rfl) (Nat.le_of_ble_eq_true rfl) ?_
  refine k_pr hx hb hts hown hin hK hKS hS mq_16 tq_16 fq_12_29 rfl rfl rfl rfl (fun i h1 h2 => absurd h2 (by omega)) (fun _ h => by cases h) mw_6_5 dX12_init_137 (fun r1 H locs hKS _ _ hS => ?_)
  refine lv_aload_n hx hb dX12_init_140 rfl (lv_at hl 0 rfl) ?_
  refine lv_iconst (v := 5) hx hb dX12_init_141 (by decide) ?_
  refine k_na (atype := .int) (t := 77) (ki := 1) (a0 := (5, .inl (fun _ => 0))) hx hb hts mw_1_61 rfl (fun C h => by cases h) hK rfl hKS hS hA rfl (fun _ => rfl) (fun j => i0_77 j) (fun _ => rfl) (by decide) rfl (by decide) (Nat.le_of_ble_eq_true rfl) (Nat.le_of_ble_eq_true rfl) dX12_init_142 (fun q_17 L1 T1 r1 σ1 ρ1 H hKS mq_17 tq_17 hS => ?_)
  refine W.widen (k := 17) (n := 5854) (Nat.le_of_ble_eq_true rfl) (Nat.le_of_ble_eq_true rfl) ?_
  refine k_pr hx hb hts hown hin hK hKS hS mq_17 tq_17 fq_12_32 rfl rfl rfl rfl (fun i h1 h2 => by rcases (show i = 30 ∨ i = 31 by omega) with rfl | rfl <;> rfl) (fun _ h => by cases h) mw_6_8 dX12_init_144 (fun r1 H locs hKS _ _ hS => ?_)
  refine lv_aload_n hx hb dX12_init_147 rfl (lv_at hl 0 rfl) ?_
  refine lv_bipush (v := 8) hx hb dX12_init_148 (by decide) ?_
  refine k_na (atype := .int) (t := 78) (ki := 1) (a0 := (8, .inl (fun _ => 0))) hx hb hts mw_1_61 rfl (fun C h => by cases h) hK rfl hKS hS hA rfl (fun _ => rfl) (fun j => i0_78 j) (fun _ => rfl) (by decide) rfl (by decide) (Nat.le_of_ble_eq_true rfl) (Nat.le_of_ble_eq_true rfl) dX12_init_150 (fun q_18 L1 T1 r1 σ1 ρ1 H hKS mq_18 tq_18 hS => ?_)
  refine W.widen (k := 18) (n := 5862) (Nat.le_of_ble_eq_true rfl) (Nat.le_of_ble_eq_true rfl) ?_
  refine k_pr hx hb hts hown hin hK hKS hS mq_18 tq_18 fq_12_35 rfl rfl rfl rfl (fun i h1 h2 => by rcases (show i = 33 ∨ i = 34 by omega) with rfl | rfl <;> rfl) (fun _ h => by cases h) mw_6_11 dX12_init_152 (fun r1 H locs hKS _ _ hS => ?_)
  refine lv_aload_n hx hb dX12_init_155 rfl (lv_at hl 0 rfl) ?_
  refine lv_bipush (v := 94) hx hb dX12_init_156 (by decide) ?_
  refine k_na (atype := .int) (t := 79) (ki := 1) (a0 := (94, .inl (fun _ => 0))) hx hb hts mw_1_61 rfl (fun C h => by cases h) hK rfl hKS hS hA rfl (fun _ => rfl) (fun j => i0_79 j) (fun _ => rfl) (by decide) rfl (by decide) (Nat.le_of_ble_eq_true rfl) (Nat.le_of_ble_eq_true rfl) dX12_init_158 (fun q_19 L1 T1 r1 σ1 ρ1 H hKS mq_19 tq_19 hS => ?_)
  refine W.widen (k := 19) (n := 5956) (Nat.le_of_ble_eq_true rfl) (Nat.le_of_ble_eq_true rfl) ?_
  refine k_pr hx hb hts hown hin hK hKS hS mq_19 tq_19 fq_12_36 rfl rfl rfl rfl (fun i h1 h2 => absurd h2 (by omega)) (fun _ h => by cases h) mw_6_12 dX12_init_160 (fun r1 H locs hKS _ _ hS => ?_)
  refine lv_aload_n hx hb dX12_init_163 rfl (lv_at hl 0 rfl) ?_
  refine lv_bipush (v := 7) hx hb dX12_init_164 (by decide) ?_
  refine k_na (atype := .boolean) (t := 80) (ki := 3) (a0 := (7, .inl (fun _ => 0))) hx hb hts mw_6_109 rfl (fun C h => by cases h) hK rfl hKS hS hA rfl (fun _ => rfl) (fun j => i0_80 j) (fun _ => rfl) (by decide) rfl (by decide) (Nat.le_of_ble_eq_true rfl) (Nat.le_of_ble_eq_true rfl) dX12_init_166 (fun q_20 L1 T1 r1 σ1 ρ1 H hKS mq_20 tq_20 hS => ?_)
  refine W.widen (k := 20) (n := 5963) (Nat.le_of_ble_eq_true rfl) (Nat.le_of_ble_eq_true rfl) ?_
  refine k_pr hx hb hts hown hin hK hKS hS mq_20 tq_20 fq_12_37 rfl rfl rfl rfl (fun i h1 h2 => absurd h2 (by omega)) (fun _ h => by cases h) mw_6_13 dX12_init_168 (fun r1 H locs hKS _ _ hS => ?_)
  refine lv_aload_n hx hb dX12_init_171 rfl (lv_at hl 0 rfl) ?_
  refine lv_bipush (v := 56) hx hb dX12_init_172 (by decide) ?_
  refine k_na (atype := .int) (t := 81) (ki := 1) (a0 := (56, .inl (fun _ => 0))) hx hb hts mw_1_61 rfl (fun C h => by cases h) hK rfl hKS hS hA rfl (fun _ => rfl) (fun j => i0_81 j) (fun _ => rfl) (by decide) rfl (by decide) (Nat.le_of_ble_eq_true rfl) (Nat.le_of_ble_eq_true rfl) dX12_init_174 (fun q_21 L1 T1 r1 σ1 ρ1 H hKS mq_21 tq_21 hS => ?_)
  refine W.widen (k := 21) (n := 6019) (Nat.le_of_ble_eq_true rfl) (Nat.le_of_ble_eq_true rfl) ?_
  refine k_pr hx hb hts hown hin hK hKS hS mq_21 tq_21 fq_12_38 rfl rfl rfl rfl (fun i h1 h2 => absurd h2 (by omega)) (fun _ h => by cases h) mw_6_14 dX12_init_176 (fun r1 H locs hKS _ _ hS => ?_)
  refine lv_aload_n hx hb dX12_init_179 rfl (lv_at hl 0 rfl) ?_
  refine lv_sipush (v := 804) hx hb dX12_init_180 (by decide) ?_
  refine k_na (atype := .int) (t := 82) (ki := 1) (a0 := (804, .inl (fun _ => 0))) hx hb hts mw_1_61 rfl (fun C h => by cases h) hK rfl hKS hS hA rfl (fun _ => rfl) (fun j => i0_82 j) (fun _ => rfl) (by decide) rfl (by decide) (Nat.le_of_ble_eq_true rfl) (Nat.le_of_ble_eq_true rfl) dX12_init_183 (fun q_22 L1 T1 r1 σ1 ρ1 H hKS mq_22 tq_22 hS => ?_)
  refine W.widen (k := 22) (n := 6823) (Nat.le_of_ble_eq_true rfl) (Nat.le_of_ble_eq_true rfl) ?_
  refine k_pr hx hb hts hown hin hK hKS hS mq_22 tq_22 fq_12_40 rfl rfl rfl rfl (fun i h1 h2 => by rcases (show i = 39 by omega) with rfl <;> rfl) (fun _ h => by cases h) mw_6_16 dX12_init_185 (fun r1 H locs hKS _ _ hS => ?_)
  refine lv_aload_n hx hb dX12_init_188 rfl (lv_at hl 0 rfl) ?_
  refine lv_iconst (v := 4) hx hb dX12_init_189 (by decide) ?_
  refine k_na (atype := .int) (t := 83) (ki := 1) (a0 := (4, .inl (fun _ => 0))) hx hb hts mw_1_61 rfl (fun C h => by cases h) hK rfl hKS hS hA rfl (fun _ => rfl) (fun j => i0_83 j) (fun _ => rfl) (by decide) rfl (by decide) (Nat.le_of_ble_eq_true rfl) (Nat.le_of_ble_eq_true rfl) dX12_init_190 (fun q_23 L1 T1 r1 σ1 ρ1 H hKS mq_23 tq_23 hS => ?_)
  refine W.widen (k := 23) (n := 6827) (Nat.le_of_ble_eq_true rfl) (Nat.le_of_ble_eq_true rfl) ?_
  refine k_pr hx hb hts hown hin hK hKS hS mq_23 tq_23 fq_12_41 rfl rfl rfl rfl (fun i h1 h2 => absurd h2 (by omega)) (fun _ h => by cases h) mw_6_17 dX12_init_192 (fun r1 H locs hKS _ _ hS => ?_)
  refine lv_aload_n hx hb dX12_init_195 rfl (lv_at hl 0 rfl) ?_
  refine lv_iconst (v := 4) hx hb dX12_init_196 (by decide) ?_
  refine k_na (atype := .int) (t := 84) (ki := 1) (a0 := (4, .inl (fun _ => 0))) hx hb hts mw_1_61 rfl (fun C h => by cases h) hK rfl hKS hS hA rfl (fun _ => rfl) (fun j => i0_84 j) (fun _ => rfl) (by decide) rfl (by decide) (Nat.le_of_ble_eq_true rfl) (Nat.le_of_ble_eq_true rfl) dX12_init_197 (fun q_24 L1 T1 r1 σ1 ρ1 H hKS mq_24 tq_24 hS => ?_)
  refine W.widen (k := 24) (n := 6831) (Nat.le_of_ble_eq_true rfl) (Nat.le_of_ble_eq_true rfl) ?_
  refine k_pr hx hb hts hown hin hK hKS hS mq_24 tq_24 fq_12_42 rfl rfl rfl rfl (fun i h1 h2 => absurd h2 (by omega)) (fun _ h => by cases h) mw_6_18 dX12_init_199 (fun r1 H locs hKS _ _ hS => ?_)
  refine lv_aload_n hx hb dX12_init_202 rfl (lv_at hl 0 rfl) ?_
  refine lv_iconst (v := 4) hx hb dX12_init_203 (by decide) ?_
  refine k_na (atype := .boolean) (t := 85) (ki := 3) (a0 := (4, .inl (fun _ => 0))) hx hb hts mw_6_109 rfl (fun C h => by cases h) hK rfl hKS hS hA rfl (fun _ => rfl) (fun j => i0_85 j) (fun _ => rfl) (by decide) rfl (by decide) (Nat.le_of_ble_eq_true rfl) (Nat.le_of_ble_eq_true rfl) dX12_init_204 (fun q_25 L1 T1 r1 σ1 ρ1 H hKS mq_25 tq_25 hS => ?_)
  refine W.widen (k := 25) (n := 6835) (Nat.le_of_ble_eq_true rfl) (Nat.le_of_ble_eq_true rfl) ?_
  refine k_pr hx hb hts hown hin hK hKS hS mq_25 tq_25 fq_12_43 rfl rfl rfl rfl (fun i h1 h2 => absurd h2 (by omega)) (fun _ h => by cases h) mw_6_19 dX12_init_206 (fun r1 H locs hKS _ _ hS => ?_)
  exact W.vret hx hb hr (fun t ht hW => ⟨⟨(), rfl, trivial, hKS.end hn_12 hf_12 ht⟩, hS.F ht⟩) hS.2.2 dX12_init_209
