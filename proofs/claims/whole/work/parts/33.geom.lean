def shT : List (Nat × Nat) := [(111, 0), (103, 0), (0, 144), (0, 144), (0, 24), (0, 24), (0, 24), (19, 10), (16, 20), (0, 100), (11, 4), (109, 0), (109, 0), (109, 0), (109, 0), (109, 0), (109, 0), (109, 0), (109, 0), (109, 0), (109, 0), (106, 0), (106, 0), (106, 0), (106, 0), (106, 0), (106, 0), (106, 0), (106, 0), (106, 0), (106, 0), (106, 0), (106, 0), (106, 0), (106, 0), (106, 0), (106, 0), (106, 0), (106, 0), (106, 0), (106, 0), (101, 0), (0, 16), (0, 16), (0, 400), (0, 32), (101, 0), (0, 16), (0, 16), (0, 400), (0, 32), (101, 0), (0, 16), (0, 16), (0, 400), (0, 32), (101, 0), (0, 16), (0, 16), (0, 400), (0, 32), (103, 0), (0, 144), (0, 144), (0, 24), (0, 24), (0, 24), (19, 10), (16, 20), (0, 100), (11, 4), (109, 0), (109, 0), (109, 0), (109, 0), (109, 0), (109, 0), (109, 0), (109, 0), (109, 0), (109, 0), (106, 0), (106, 0), (106, 0), (106, 0), (106, 0), (106, 0), (106, 0), (106, 0), (106, 0), (106, 0), (106, 0), (106, 0), (106, 0), (106, 0), (106, 0), (106, 0), (106, 0), (106, 0), (106, 0), (106, 0), (101, 0), (0, 16), (0, 16), (0, 400), (0, 32), (101, 0), (0, 16), (0, 16), (0, 400), (0, 32), (101, 0), (0, 16), (0, 16), (0, 400), (0, 32), (101, 0), (0, 16), (0, 16), (0, 400), (0, 32), (102, 0), (18, 6), (108, 0), (0, 144), (0, 100), (3, 20), (19, 10), (109, 0), (109, 0), (109, 0), (109, 0), (109, 0), (109, 0), (109, 0), (109, 0), (109, 0), (109, 0), (108, 0), (0, 144), (0, 100), (3, 20), (19, 10), (109, 0), (109, 0), (109, 0), (109, 0), (109, 0), (109, 0), (109, 0), (109, 0), (109, 0), (109, 0), (108, 0), (0, 144), (0, 100), (3, 20), (19, 10), (109, 0), (109, 0), (109, 0), (109, 0), (109, 0), (109, 0), (109, 0), (109, 0), (109, 0), (109, 0), (108, 0), (0, 144), (0, 100), (3, 20), (19, 10), (109, 0), (109, 0), (109, 0), (109, 0), (109, 0), (109, 0), (109, 0), (109, 0), (109, 0), (109, 0), (108, 0), (0, 144), (0, 100), (3, 20), (19, 10), (109, 0), (109, 0), (109, 0), (109, 0), (109, 0), (109, 0), (109, 0), (109, 0), (109, 0), (109, 0), (108, 0), (0, 144), (0, 100), (3, 20), (19, 10), (109, 0), (109, 0), (109, 0), (109, 0), (109, 0), (109, 0), (109, 0), (109, 0), (109, 0), (109, 0), (110, 0), (0, 10), (107, 0), (2, 400), (0, 401), (0, 401), (105, 0), (101, 0), (0, 16), (0, 16), (0, 400), (0, 32), (104, 0), (0, 12), (0, 12), (0, 12), (0, 12), (0, 12), (104, 0), (0, 12), (0, 12), (0, 12), (0, 12), (0, 12), (0, 144), (100, 0), (1, 144), (1, 144), (112, 0), (0, 336), (0, 2016), (0, 144), (0, 24), (0, 24), (0, 24), (0, 10), (0, 10), (0, 10), (0, 10), (0, 20), (0, 20), (0, 20), (0, 10), (0, 10), (0, 400), (0, 77), (0, 4), (0, 80), (0, 80), (0, 80), (0, 2000), (0, 2000), (0, 40), (0, 10), (0, 420), (3, 432), (0, 144), (1, 1872), (0, 4300)]
def shF (L b : Nat) : Nat × Nat := if b < 8 then am_sh0 L b else shT.getD (b - 8) (999, 0)
def gF (L : Nat) : am_G := (272, shF L)
theorem gF_2 (L b : Nat) : (gF L).2 b = shF L b := rfl
def rT8 : List (Option Nat) := [some 9, some 69, none, some 129, some 221, some 223, some 227, some 233, some 239, some 245, some 246]
def rTm : List (Option Nat) := [none, some 250, some 251, none, none, none, some 252, some 253, some 254, some 255, none, some 256, some 257, some 258, some 259, none, none, some 260, some 261, some 262, some 263, some 264, some 265, none, none, none, none, none, some 266, some 267, some 268, some 269, some 270, some 271, some 272, none, none, some 273, none, none, none, none, none, some 274, some 275, some 276, some 277, some 278, none, none, none, some 279]
/-- a Plain's references -/
def rPl (a k : Nat) : Option Nat := if k < 7 then none else if k < 16 then some (a + (k - 6)) else none
def rOr (a k : Nat) : Option Nat := match k with
  | 2 => some (a + 1)
  | 3 => some (a + 2)
  | 4 => some (a + 3)
  | 6 => some (a + 4)
  | _ => none
def rRe (w : Option Nat) (a k : Nat) : Option Nat := if k < 5 then some (a + (k + 1)) else if k = 5 then some 9 else if k = 6 then w else none
/-- a Trace's cells: the Trace itself, its array of villages -/
def rTr (a k : Nat) : Option Nat := match (a - 131) % 15 with
  | 0 => (match k with
    | 2 => some (a + 1)
    | 3 => some (a + 2)
    | 4 => some (a + 3)
    | 5 => some (a + 4)
    | _ => none)
  | 4 => if k < 10 then some (a + (k + 1)) else none
  | _ => none
/-- all references; w: those that change (0 to 3 the ground's orders, 4 the reader's, 5 and 6 Chance's rows, 7 and 8 who is at home) -/
def rF (w : Nat → Option Nat) (a k : Nat) : Option Nat :=
  if a = 249 then rTm.getD k none else if a = 8 then rT8.getD k none else if a = 9 ∨ a = 69 then rPl a k else
  if a = 15 ∨ a = 75 then (if k < 10 then some (a + (k + 4)) else none) else if a = 16 ∨ a = 76 then (if k < 20 then some (a + (k + 13)) else none) else
  if a = 18 then (if k < 4 then w k else none) else if a = 78 then (if k < 4 then some (109 + 5 * k) else none) else
  if a = 49 ∨ a = 54 ∨ a = 59 ∨ a = 64 ∨ a = 109 ∨ a = 114 ∨ a = 119 ∨ a = 124 ∨ a = 228 then rOr a k else
  if a = 129 then (if k = 0 then some 130 else none) else if a = 130 then (if k < 6 then some (131 + 15 * k) else none) else if 131 ≤ a ∧ a < 221 then rTr a k else
  if a = 221 then (if k = 0 then some 9 else if k = 1 then some 222 else none) else if a = 223 then (if k = 0 then some 224 else if k = 2 then some 225 else if k = 3 then some 226 else none) else
  if a = 227 then (if k = 0 then some 223 else if k = 1 then w 4 else none) else if a = 233 then rRe (w 7) a k else if a = 239 then rRe (w 8) a k else
  if a = 246 then (if k = 0 then w 5 else if k = 1 then w 6 else if k = 2 then some 9 else if k = 3 then some 233 else none) else none
section GEO
variable {L : Nat} {w : Nat → Option Nat} {i j : Nat}
theorem sh_8 : shF L 8 = (111, 0) := rfl
theorem ok_8 : okO (gF L) 11 8 = True := eq_true ⟨rfl, by decide⟩
theorem sh_9 : shF L 9 = (103, 0) := rfl
theorem ok_9 : okO (gF L) 3 9 = True := eq_true ⟨rfl, by decide⟩
theorem sh_10 : shF L 10 = (0, 144) := rfl
theorem sh_11 : shF L 11 = (0, 144) := rfl
theorem sh_12 : shF L 12 = (0, 24) := rfl
theorem sh_13 : shF L 13 = (0, 24) := rfl
theorem sh_14 : shF L 14 = (0, 24) := rfl
theorem sh_15 : shF L 15 = (19, 10) := rfl
theorem sh_16 : shF L 16 = (16, 20) := rfl
theorem sh_17 : shF L 17 = (0, 100) := rfl
theorem sh_18 : shF L 18 = (11, 4) := rfl
theorem sh_49 : shF L 49 = (101, 0) := rfl
theorem ok_49 : okO (gF L) 1 49 = True := eq_true ⟨rfl, by decide⟩
theorem sh_50 : shF L 50 = (0, 16) := rfl
theorem sh_51 : shF L 51 = (0, 16) := rfl
theorem sh_52 : shF L 52 = (0, 400) := rfl
theorem sh_53 : shF L 53 = (0, 32) := rfl
theorem sh_54 : shF L 54 = (101, 0) := rfl
theorem ok_54 : okO (gF L) 1 54 = True := eq_true ⟨rfl, by decide⟩
theorem sh_55 : shF L 55 = (0, 16) := rfl
theorem sh_56 : shF L 56 = (0, 16) := rfl
theorem sh_57 : shF L 57 = (0, 400) := rfl
theorem sh_58 : shF L 58 = (0, 32) := rfl
theorem sh_59 : shF L 59 = (101, 0) := rfl
theorem ok_59 : okO (gF L) 1 59 = True := eq_true ⟨rfl, by decide⟩
theorem sh_60 : shF L 60 = (0, 16) := rfl
theorem sh_61 : shF L 61 = (0, 16) := rfl
theorem sh_62 : shF L 62 = (0, 400) := rfl
theorem sh_63 : shF L 63 = (0, 32) := rfl
theorem sh_64 : shF L 64 = (101, 0) := rfl
theorem ok_64 : okO (gF L) 1 64 = True := eq_true ⟨rfl, by decide⟩
theorem sh_65 : shF L 65 = (0, 16) := rfl
theorem sh_66 : shF L 66 = (0, 16) := rfl
theorem sh_67 : shF L 67 = (0, 400) := rfl
theorem sh_68 : shF L 68 = (0, 32) := rfl
theorem sh_69 : shF L 69 = (103, 0) := rfl
theorem ok_69 : okO (gF L) 3 69 = True := eq_true ⟨rfl, by decide⟩
theorem sh_70 : shF L 70 = (0, 144) := rfl
theorem sh_71 : shF L 71 = (0, 144) := rfl
theorem sh_72 : shF L 72 = (0, 24) := rfl
theorem sh_73 : shF L 73 = (0, 24) := rfl
theorem sh_74 : shF L 74 = (0, 24) := rfl
theorem sh_75 : shF L 75 = (19, 10) := rfl
theorem sh_76 : shF L 76 = (16, 20) := rfl
theorem sh_77 : shF L 77 = (0, 100) := rfl
theorem sh_78 : shF L 78 = (11, 4) := rfl
theorem sh_109 : shF L 109 = (101, 0) := rfl
theorem ok_109 : okO (gF L) 1 109 = True := eq_true ⟨rfl, by decide⟩
theorem sh_110 : shF L 110 = (0, 16) := rfl
theorem sh_111 : shF L 111 = (0, 16) := rfl
theorem sh_112 : shF L 112 = (0, 400) := rfl
theorem sh_113 : shF L 113 = (0, 32) := rfl
theorem sh_114 : shF L 114 = (101, 0) := rfl
theorem ok_114 : okO (gF L) 1 114 = True := eq_true ⟨rfl, by decide⟩
theorem sh_115 : shF L 115 = (0, 16) := rfl
theorem sh_116 : shF L 116 = (0, 16) := rfl
theorem sh_117 : shF L 117 = (0, 400) := rfl
theorem sh_118 : shF L 118 = (0, 32) := rfl
theorem sh_119 : shF L 119 = (101, 0) := rfl
theorem ok_119 : okO (gF L) 1 119 = True := eq_true ⟨rfl, by decide⟩
theorem sh_120 : shF L 120 = (0, 16) := rfl
theorem sh_121 : shF L 121 = (0, 16) := rfl
theorem sh_122 : shF L 122 = (0, 400) := rfl
theorem sh_123 : shF L 123 = (0, 32) := rfl
theorem sh_124 : shF L 124 = (101, 0) := rfl
theorem ok_124 : okO (gF L) 1 124 = True := eq_true ⟨rfl, by decide⟩
theorem sh_125 : shF L 125 = (0, 16) := rfl
theorem sh_126 : shF L 126 = (0, 16) := rfl
theorem sh_127 : shF L 127 = (0, 400) := rfl
theorem sh_128 : shF L 128 = (0, 32) := rfl
theorem sh_129 : shF L 129 = (102, 0) := rfl
theorem ok_129 : okO (gF L) 2 129 = True := eq_true ⟨rfl, by decide⟩
theorem sh_130 : shF L 130 = (18, 6) := rfl
theorem sh_131 : shF L 131 = (108, 0) := rfl
theorem ok_131 : okO (gF L) 8 131 = True := eq_true ⟨rfl, by decide⟩
theorem sh_132 : shF L 132 = (0, 144) := rfl
theorem sh_133 : shF L 133 = (0, 100) := rfl
theorem sh_134 : shF L 134 = (3, 20) := rfl
theorem sh_135 : shF L 135 = (19, 10) := rfl
theorem sh_146 : shF L 146 = (108, 0) := rfl
theorem ok_146 : okO (gF L) 8 146 = True := eq_true ⟨rfl, by decide⟩
theorem sh_147 : shF L 147 = (0, 144) := rfl
theorem sh_148 : shF L 148 = (0, 100) := rfl
theorem sh_149 : shF L 149 = (3, 20) := rfl
theorem sh_150 : shF L 150 = (19, 10) := rfl
theorem sh_161 : shF L 161 = (108, 0) := rfl
theorem ok_161 : okO (gF L) 8 161 = True := eq_true ⟨rfl, by decide⟩
theorem sh_162 : shF L 162 = (0, 144) := rfl
theorem sh_163 : shF L 163 = (0, 100) := rfl
theorem sh_164 : shF L 164 = (3, 20) := rfl
theorem sh_165 : shF L 165 = (19, 10) := rfl
theorem sh_176 : shF L 176 = (108, 0) := rfl
theorem ok_176 : okO (gF L) 8 176 = True := eq_true ⟨rfl, by decide⟩
theorem sh_177 : shF L 177 = (0, 144) := rfl
theorem sh_178 : shF L 178 = (0, 100) := rfl
theorem sh_179 : shF L 179 = (3, 20) := rfl
theorem sh_180 : shF L 180 = (19, 10) := rfl
theorem sh_191 : shF L 191 = (108, 0) := rfl
theorem ok_191 : okO (gF L) 8 191 = True := eq_true ⟨rfl, by decide⟩
theorem sh_192 : shF L 192 = (0, 144) := rfl
theorem sh_193 : shF L 193 = (0, 100) := rfl
theorem sh_194 : shF L 194 = (3, 20) := rfl
theorem sh_195 : shF L 195 = (19, 10) := rfl
theorem sh_206 : shF L 206 = (108, 0) := rfl
theorem ok_206 : okO (gF L) 8 206 = True := eq_true ⟨rfl, by decide⟩
theorem sh_207 : shF L 207 = (0, 144) := rfl
theorem sh_208 : shF L 208 = (0, 100) := rfl
theorem sh_209 : shF L 209 = (3, 20) := rfl
theorem sh_210 : shF L 210 = (19, 10) := rfl
theorem sh_221 : shF L 221 = (110, 0) := rfl
theorem ok_221 : okO (gF L) 10 221 = True := eq_true ⟨rfl, by decide⟩
theorem sh_222 : shF L 222 = (0, 10) := rfl
theorem sh_223 : shF L 223 = (107, 0) := rfl
theorem ok_223 : okO (gF L) 7 223 = True := eq_true ⟨rfl, by decide⟩
theorem sh_224 : shF L 224 = (2, 400) := rfl
theorem sh_225 : shF L 225 = (0, 401) := rfl
theorem sh_226 : shF L 226 = (0, 401) := rfl
theorem sh_227 : shF L 227 = (105, 0) := rfl
theorem ok_227 : okO (gF L) 5 227 = True := eq_true ⟨rfl, by decide⟩
theorem sh_228 : shF L 228 = (101, 0) := rfl
theorem ok_228 : okO (gF L) 1 228 = True := eq_true ⟨rfl, by decide⟩
theorem sh_229 : shF L 229 = (0, 16) := rfl
theorem sh_230 : shF L 230 = (0, 16) := rfl
theorem sh_231 : shF L 231 = (0, 400) := rfl
theorem sh_232 : shF L 232 = (0, 32) := rfl
theorem sh_233 : shF L 233 = (104, 0) := rfl
theorem ok_233 : okO (gF L) 4 233 = True := eq_true ⟨rfl, by decide⟩
theorem sh_234 : shF L 234 = (0, 12) := rfl
theorem sh_235 : shF L 235 = (0, 12) := rfl
theorem sh_236 : shF L 236 = (0, 12) := rfl
theorem sh_237 : shF L 237 = (0, 12) := rfl
theorem sh_238 : shF L 238 = (0, 12) := rfl
theorem sh_239 : shF L 239 = (104, 0) := rfl
theorem ok_239 : okO (gF L) 4 239 = True := eq_true ⟨rfl, by decide⟩
theorem sh_240 : shF L 240 = (0, 12) := rfl
theorem sh_241 : shF L 241 = (0, 12) := rfl
theorem sh_242 : shF L 242 = (0, 12) := rfl
theorem sh_243 : shF L 243 = (0, 12) := rfl
theorem sh_244 : shF L 244 = (0, 12) := rfl
theorem sh_245 : shF L 245 = (0, 144) := rfl
theorem sh_246 : shF L 246 = (100, 0) := rfl
theorem ok_246 : okO (gF L) 0 246 = True := eq_true ⟨rfl, by decide⟩
theorem sh_247 : shF L 247 = (1, 144) := rfl
theorem sh_248 : shF L 248 = (1, 144) := rfl
theorem sh_249 : shF L 249 = (112, 0) := rfl
theorem ok_249 : okO (gF L) 12 249 = True := eq_true ⟨rfl, by decide⟩
theorem sh_250 : shF L 250 = (0, 336) := rfl
theorem sh_251 : shF L 251 = (0, 2016) := rfl
theorem sh_252 : shF L 252 = (0, 144) := rfl
theorem sh_253 : shF L 253 = (0, 24) := rfl
theorem sh_254 : shF L 254 = (0, 24) := rfl
theorem sh_255 : shF L 255 = (0, 24) := rfl
theorem sh_256 : shF L 256 = (0, 10) := rfl
theorem sh_257 : shF L 257 = (0, 10) := rfl
theorem sh_258 : shF L 258 = (0, 10) := rfl
theorem sh_259 : shF L 259 = (0, 10) := rfl
theorem sh_260 : shF L 260 = (0, 20) := rfl
theorem sh_261 : shF L 261 = (0, 20) := rfl
theorem sh_262 : shF L 262 = (0, 20) := rfl
theorem sh_263 : shF L 263 = (0, 10) := rfl
theorem sh_264 : shF L 264 = (0, 10) := rfl
theorem sh_265 : shF L 265 = (0, 400) := rfl
theorem sh_266 : shF L 266 = (0, 77) := rfl
theorem sh_267 : shF L 267 = (0, 4) := rfl
theorem sh_268 : shF L 268 = (0, 80) := rfl
theorem sh_269 : shF L 269 = (0, 80) := rfl
theorem sh_270 : shF L 270 = (0, 80) := rfl
theorem sh_271 : shF L 271 = (0, 2000) := rfl
theorem sh_272 : shF L 272 = (0, 2000) := rfl
theorem sh_273 : shF L 273 = (0, 40) := rfl
theorem sh_274 : shF L 274 = (0, 10) := rfl
theorem sh_275 : shF L 275 = (0, 420) := rfl
theorem sh_276 : shF L 276 = (3, 432) := rfl
theorem sh_277 : shF L 277 = (0, 144) := rfl
theorem sh_278 : shF L 278 = (1, 1872) := rfl
theorem sh_279 : shF L 279 = (0, 4300) := rfl
theorem sh_1 : shF L 1 = (0, 8) := rfl
theorem sh_2 : shF L 2 = (0, 8) := rfl
theorem sh_3 : shF L 3 = (116, 0) := rfl
theorem sh_4 : shF L 4 = (2, 75) := rfl
theorem gv_s (h : i < 10) : shF L (19 + i) = (109, 0) := by
  have q : ∀ i, i < 10 → shT.getD (11 + i) (999, 0) = (109, 0) := by decide +kernel
  unfold shF
  rw [if_neg (by omega), show 19 + i - 8 = 11 + i by omega]
  exact q i h
theorem gv_o (h : i < 10) : okO (gF L) 9 (19 + i) = True := eq_true ⟨by rw [gF_2, gv_s h], by omega⟩
theorem kv_s (h : i < 10) : shF L (79 + i) = (109, 0) := by
  have q : ∀ i, i < 10 → shT.getD (71 + i) (999, 0) = (109, 0) := by decide +kernel
  unfold shF
  rw [if_neg (by omega), show 79 + i - 8 = 71 + i by omega]
  exact q i h
theorem kv_o (h : i < 10) : okO (gF L) 9 (79 + i) = True := eq_true ⟨by rw [gF_2, kv_s h], by omega⟩
theorem gr_s (h : i < 20) : shF L (29 + i) = (106, 0) := by
  have q : ∀ i, i < 20 → shT.getD (21 + i) (999, 0) = (106, 0) := by decide +kernel
  unfold shF
  rw [if_neg (by omega), show 29 + i - 8 = 21 + i by omega]
  exact q i h
theorem gr_o (h : i < 20) : okO (gF L) 6 (29 + i) = True := eq_true ⟨by rw [gF_2, gr_s h], by omega⟩
theorem kr_s (h : i < 20) : shF L (89 + i) = (106, 0) := by
  have q : ∀ i, i < 20 → shT.getD (81 + i) (999, 0) = (106, 0) := by decide +kernel
  unfold shF
  rw [if_neg (by omega), show 89 + i - 8 = 81 + i by omega]
  exact q i h
theorem kr_o (h : i < 20) : okO (gF L) 6 (89 + i) = True := eq_true ⟨by rw [gF_2, kr_s h], by omega⟩
theorem r_8_0 : rF w 8 0 = some 9 := rfl
theorem r_8_1 : rF w 8 1 = some 69 := rfl
theorem r_8_3 : rF w 8 3 = some 129 := rfl
theorem r_8_4 : rF w 8 4 = some 221 := rfl
theorem r_8_5 : rF w 8 5 = some 223 := rfl
theorem r_8_6 : rF w 8 6 = some 227 := rfl
theorem r_8_7 : rF w 8 7 = some 233 := rfl
theorem r_8_8 : rF w 8 8 = some 239 := rfl
theorem r_8_9 : rF w 8 9 = some 245 := rfl
theorem r_8_10 : rF w 8 10 = some 246 := rfl
theorem r_9_7 : rF w 9 7 = some 10 := rfl
theorem r_9_8 : rF w 9 8 = some 11 := rfl
theorem r_9_9 : rF w 9 9 = some 12 := rfl
theorem r_9_10 : rF w 9 10 = some 13 := rfl
theorem r_9_11 : rF w 9 11 = some 14 := rfl
theorem r_9_12 : rF w 9 12 = some 15 := rfl
theorem r_9_13 : rF w 9 13 = some 16 := rfl
theorem r_9_14 : rF w 9 14 = some 17 := rfl
theorem r_9_15 : rF w 9 15 = some 18 := rfl
theorem r_49_2 : rF w 49 2 = some 50 := rfl
theorem r_49_3 : rF w 49 3 = some 51 := rfl
theorem r_49_4 : rF w 49 4 = some 52 := rfl
theorem r_49_6 : rF w 49 6 = some 53 := rfl
theorem r_54_2 : rF w 54 2 = some 55 := rfl
theorem r_54_3 : rF w 54 3 = some 56 := rfl
theorem r_54_4 : rF w 54 4 = some 57 := rfl
theorem r_54_6 : rF w 54 6 = some 58 := rfl
theorem r_59_2 : rF w 59 2 = some 60 := rfl
theorem r_59_3 : rF w 59 3 = some 61 := rfl
theorem r_59_4 : rF w 59 4 = some 62 := rfl
theorem r_59_6 : rF w 59 6 = some 63 := rfl
theorem r_64_2 : rF w 64 2 = some 65 := rfl
theorem r_64_3 : rF w 64 3 = some 66 := rfl
theorem r_64_4 : rF w 64 4 = some 67 := rfl
theorem r_64_6 : rF w 64 6 = some 68 := rfl
theorem r_69_7 : rF w 69 7 = some 70 := rfl
theorem r_69_8 : rF w 69 8 = some 71 := rfl
theorem r_69_9 : rF w 69 9 = some 72 := rfl
theorem r_69_10 : rF w 69 10 = some 73 := rfl
theorem r_69_11 : rF w 69 11 = some 74 := rfl
theorem r_69_12 : rF w 69 12 = some 75 := rfl
theorem r_69_13 : rF w 69 13 = some 76 := rfl
theorem r_69_14 : rF w 69 14 = some 77 := rfl
theorem r_69_15 : rF w 69 15 = some 78 := rfl
theorem r_109_2 : rF w 109 2 = some 110 := rfl
theorem r_109_3 : rF w 109 3 = some 111 := rfl
theorem r_109_4 : rF w 109 4 = some 112 := rfl
theorem r_109_6 : rF w 109 6 = some 113 := rfl
theorem r_114_2 : rF w 114 2 = some 115 := rfl
theorem r_114_3 : rF w 114 3 = some 116 := rfl
theorem r_114_4 : rF w 114 4 = some 117 := rfl
theorem r_114_6 : rF w 114 6 = some 118 := rfl
theorem r_119_2 : rF w 119 2 = some 120 := rfl
theorem r_119_3 : rF w 119 3 = some 121 := rfl
theorem r_119_4 : rF w 119 4 = some 122 := rfl
theorem r_119_6 : rF w 119 6 = some 123 := rfl
theorem r_124_2 : rF w 124 2 = some 125 := rfl
theorem r_124_3 : rF w 124 3 = some 126 := rfl
theorem r_124_4 : rF w 124 4 = some 127 := rfl
theorem r_124_6 : rF w 124 6 = some 128 := rfl
theorem r_129_0 : rF w 129 0 = some 130 := rfl
theorem r_131_2 : rF w 131 2 = some 132 := rfl
theorem r_131_3 : rF w 131 3 = some 133 := rfl
theorem r_131_4 : rF w 131 4 = some 134 := rfl
theorem r_131_5 : rF w 131 5 = some 135 := rfl
theorem r_146_2 : rF w 146 2 = some 147 := rfl
theorem r_146_3 : rF w 146 3 = some 148 := rfl
theorem r_146_4 : rF w 146 4 = some 149 := rfl
theorem r_146_5 : rF w 146 5 = some 150 := rfl
theorem r_161_2 : rF w 161 2 = some 162 := rfl
theorem r_161_3 : rF w 161 3 = some 163 := rfl
theorem r_161_4 : rF w 161 4 = some 164 := rfl
theorem r_161_5 : rF w 161 5 = some 165 := rfl
theorem r_176_2 : rF w 176 2 = some 177 := rfl
theorem r_176_3 : rF w 176 3 = some 178 := rfl
theorem r_176_4 : rF w 176 4 = some 179 := rfl
theorem r_176_5 : rF w 176 5 = some 180 := rfl
theorem r_191_2 : rF w 191 2 = some 192 := rfl
theorem r_191_3 : rF w 191 3 = some 193 := rfl
theorem r_191_4 : rF w 191 4 = some 194 := rfl
theorem r_191_5 : rF w 191 5 = some 195 := rfl
theorem r_206_2 : rF w 206 2 = some 207 := rfl
theorem r_206_3 : rF w 206 3 = some 208 := rfl
theorem r_206_4 : rF w 206 4 = some 209 := rfl
theorem r_206_5 : rF w 206 5 = some 210 := rfl
theorem r_221_0 : rF w 221 0 = some 9 := rfl
theorem r_221_1 : rF w 221 1 = some 222 := rfl
theorem r_223_0 : rF w 223 0 = some 224 := rfl
theorem r_223_2 : rF w 223 2 = some 225 := rfl
theorem r_223_3 : rF w 223 3 = some 226 := rfl
theorem r_227_0 : rF w 227 0 = some 223 := rfl
theorem r_228_2 : rF w 228 2 = some 229 := rfl
theorem r_228_3 : rF w 228 3 = some 230 := rfl
theorem r_228_4 : rF w 228 4 = some 231 := rfl
theorem r_228_6 : rF w 228 6 = some 232 := rfl
theorem r_233_0 : rF w 233 0 = some 234 := rfl
theorem r_233_1 : rF w 233 1 = some 235 := rfl
theorem r_233_2 : rF w 233 2 = some 236 := rfl
theorem r_233_3 : rF w 233 3 = some 237 := rfl
theorem r_233_4 : rF w 233 4 = some 238 := rfl
theorem r_233_5 : rF w 233 5 = some 9 := rfl
theorem r_239_0 : rF w 239 0 = some 240 := rfl
theorem r_239_1 : rF w 239 1 = some 241 := rfl
theorem r_239_2 : rF w 239 2 = some 242 := rfl
theorem r_239_3 : rF w 239 3 = some 243 := rfl
theorem r_239_4 : rF w 239 4 = some 244 := rfl
theorem r_239_5 : rF w 239 5 = some 9 := rfl
theorem r_246_2 : rF w 246 2 = some 9 := rfl
theorem r_246_3 : rF w 246 3 = some 233 := rfl
theorem r_249_1 : rF w 249 1 = some 250 := rfl
theorem r_249_2 : rF w 249 2 = some 251 := rfl
theorem r_249_6 : rF w 249 6 = some 252 := rfl
theorem r_249_7 : rF w 249 7 = some 253 := rfl
theorem r_249_8 : rF w 249 8 = some 254 := rfl
theorem r_249_9 : rF w 249 9 = some 255 := rfl
theorem r_249_11 : rF w 249 11 = some 256 := rfl
theorem r_249_12 : rF w 249 12 = some 257 := rfl
theorem r_249_13 : rF w 249 13 = some 258 := rfl
theorem r_249_14 : rF w 249 14 = some 259 := rfl
theorem r_249_17 : rF w 249 17 = some 260 := rfl
theorem r_249_18 : rF w 249 18 = some 261 := rfl
theorem r_249_19 : rF w 249 19 = some 262 := rfl
theorem r_249_20 : rF w 249 20 = some 263 := rfl
theorem r_249_21 : rF w 249 21 = some 264 := rfl
theorem r_249_22 : rF w 249 22 = some 265 := rfl
theorem r_249_28 : rF w 249 28 = some 266 := rfl
theorem r_249_29 : rF w 249 29 = some 267 := rfl
theorem r_249_30 : rF w 249 30 = some 268 := rfl
theorem r_249_31 : rF w 249 31 = some 269 := rfl
theorem r_249_32 : rF w 249 32 = some 270 := rfl
theorem r_249_33 : rF w 249 33 = some 271 := rfl
theorem r_249_34 : rF w 249 34 = some 272 := rfl
theorem r_249_37 : rF w 249 37 = some 273 := rfl
theorem r_249_43 : rF w 249 43 = some 274 := rfl
theorem r_249_44 : rF w 249 44 = some 275 := rfl
theorem r_249_45 : rF w 249 45 = some 276 := rfl
theorem r_249_46 : rF w 249 46 = some 277 := rfl
theorem r_249_47 : rF w 249 47 = some 278 := rfl
theorem r_249_51 : rF w 249 51 = some 279 := rfl
theorem r_227_1 : rF w 227 1 = w 4 := rfl
theorem r_233_6 : rF w 233 6 = w 7 := rfl
theorem r_239_6 : rF w 239 6 = w 8 := rfl
theorem r_246_0 : rF w 246 0 = w 5 := rfl
theorem r_246_1 : rF w 246 1 = w 6 := rfl
theorem r_15 (h : i < 10) : rF w 15 i = some (19 + i) := by
  show (if i < 10 then some (15 + (i + 4)) else none) = _
  rw [if_pos h]; congr 1; omega
theorem r_75 (h : i < 10) : rF w 75 i = some (79 + i) := by
  show (if i < 10 then some (75 + (i + 4)) else none) = _
  rw [if_pos h]; congr 1; omega
theorem r_16 (h : i < 20) : rF w 16 i = some (29 + i) := by
  show (if i < 20 then some (16 + (i + 13)) else none) = _
  rw [if_pos h]; congr 1; omega
theorem r_76 (h : i < 20) : rF w 76 i = some (89 + i) := by
  show (if i < 20 then some (76 + (i + 13)) else none) = _
  rw [if_pos h]; congr 1; omega
theorem r_18 (h : i < 4) : rF w 18 i = w i := if_pos h
theorem r_78 (h : i < 4) : rF w 78 i = some (109 + 5 * i) := if_pos h
theorem r_130 (h : i < 6) : rF w 130 i = some (131 + 15 * i) := if_pos h
end GEO
