/-! ===== the class: sums reckoned from code ===== -/
def zBrk : Int32 := -2000000000
def zfar (z : Int) : Int32 := if z < -1000000000 ∨ 1000000000 < z then zBrk else zI z
def zo2 (o : Nat) (a b : Int32) : Int32 :=
  if o = 6 then zfar (a.toInt + b.toInt) else if o = 7 then zfar (a.toInt - b.toInt) else if o = 8 then zfar (a.toInt * b.toInt)
  else if o = 9 then (if b = 0 then zBrk else a / b) else if o = 10 then (if b = 0 then zBrk else a - a / b * b)
  else if o = 11 then (if a < b then 1 else 0) else if o = 12 then (if b < a then 1 else 0) else (if a = b then 1 else 0)
/-- the code's machine: operation and argument by place; N places, NW words g; the values' pile, the top first -/
def zex (cd : Nat → Nat × Nat) (N NW : Nat) (g : Nat → Int32) : Nat → Nat → List Int32 → Option Int32
  | 0, _, _ => none
  | f + 1, p, st => if N ≤ p then none else if (cd p).1 = 1 ∨ (cd p).1 = 2 then (if 32 ≤ st.length ∨ ((cd p).1 = 2 ∧ NW ≤ (cd p).2) then none else zex cd N NW g f (p + 1) ((if (cd p).1 = 1 then nI (cd p).2 else g (cd p).2) :: st))
    else match st with
      | [] => none
      | v :: r => if (cd p).1 = 0 then some v else if (cd p).1 = 3 then zex cd N NW g f (p + 1) ((1 - v) :: r) else if (cd p).1 = 4 ∨ (cd p).1 = 5 then (if v = (if (cd p).1 = 4 then 1 else 0) then zex cd N NW g f (cd p).2 (v :: r) else zex cd N NW g f (p + 1) r)
        else match r with
          | [] => none
          | u :: r' => if zo2 (cd p).1 u v = zBrk then none else zex cd N NW g f (p + 1) (zo2 (cd p).1 u v :: r')
theorem zbit10 {c : Nat} (h : c < 2147483648) : nI c >>> (nI 10 &&& 31) = nI (c / 1024) ∧ nI c &&& nI 1023 = nI (c % 1024) := by
  refine ⟨?_, ?_⟩
  · rw [pk_shrN h _ 10 (by decide)]
  · exact pk_andN (by omega) 10 (by decide)
/-- the pile in its row -/
def zSt (a : Nat → Int32) (st : List Int32) : Prop := st.length ≤ 32 ∧ ∀ j, j < st.length → a (st.length - 1 - j) = st.getD j 0
theorem zSt_push {a : Nat → Int32} {st : List Int32} {v : Int32} (h : zSt a st) (hl : st.length < 32) : zSt (upd a st.length v) (v :: st) := by
  refine ⟨by rw [List.length_cons]; omega, fun j hj => ?_⟩
  rw [List.length_cons] at hj ⊢
  cases j with
  | zero => rw [show st.length + 1 - 1 - 0 = st.length by omega, upd_s]; rfl
  | succ j =>
    rw [show st.length + 1 - 1 - (j + 1) = st.length - 1 - j by omega, upd_o _ (by omega), h.2 j (by omega)]
    rfl
theorem zSt_tail {a : Nat → Int32} {v : Int32} {st : List Int32} (h : zSt a (v :: st)) : zSt a st := by
  have h1 := h.1
  rw [List.length_cons] at h1
  refine ⟨by omega, fun j hj => ?_⟩
  have := h.2 (j + 1) (by rw [List.length_cons]; omega)
  rw [List.length_cons, show st.length + 1 - 1 - (j + 1) = st.length - 1 - j by omega] at this
  exact this
theorem zSt_top {a : Nat → Int32} {v : Int32} {st : List Int32} (h : zSt a (v :: st)) : a st.length = v := by
  have := h.2 0 (by rw [List.length_cons]; omega)
  rw [List.length_cons, show st.length + 1 - 1 - 0 = st.length by omega] at this
  exact this
theorem zSt_set {a : Nat → Int32} {v w : Int32} {st : List Int32} (h : zSt a (v :: st)) : zSt (upd a st.length w) (w :: st) := zSt_push (zSt_tail h) (by have := h.1; rw [List.length_cons] at this; omega)
theorem zL_far {z : Int} (h1 : -9000000000000000000 ≤ z) (h2 : z ≤ 9000000000000000000) : (if zL z < -1000000000 then zBrk else if zL z ≤ 1000000000 then (zL z).toInt32 else zBrk) = zfar z := by
  have e1 : zL z < -1000000000 ↔ z < -1000000000 := zL_lt (y := -1000000000) (by omega) (by omega)
  have e2 : zL z ≤ 1000000000 ↔ z ≤ 1000000000 := zL_le (y := 1000000000) (by omega) (by omega)
  unfold zfar
  by_cases c1 : z < -1000000000
  · rw [if_pos (e1.mpr c1), if_pos (Or.inl c1)]
  · rw [if_neg (fun h => c1 (e1.mp h))]
    by_cases c2 : z ≤ 1000000000
    · rw [if_pos (e2.mpr c2), if_neg (by omega), zL_i32 (by omega) (by omega)]
    · rw [if_neg (fun h => c2 (e2.mp h)), if_pos (by omega)]
theorem dX9_reckon_0 : decode cX9_reckon 0 = .ok (.iload_n 2, 1) := by decide +kernel
theorem dX9_reckon_1 : decode cX9_reckon 1 = .ok (.iconst (-1), 1) := by decide +kernel
theorem dX9_reckon_2 : decode cX9_reckon 2 = .ok (.if_icmp .eq 10, 3) := by decide +kernel
theorem dX9_reckon_5 : decode cX9_reckon 5 = .ok (.aload_n 1, 1) := by decide +kernel
theorem dX9_reckon_6 : decode cX9_reckon 6 = .ok (.getfield 15, 3) := by decide +kernel
theorem dX9_reckon_9 : decode cX9_reckon 9 = .ok (.ifnonnull 6, 3) := by decide +kernel
theorem dX9_reckon_12 : decode cX9_reckon 12 = .ok (.iload 4, 2) := by decide +kernel
theorem dX9_reckon_14 : decode cX9_reckon 14 = .ok (.ireturn, 1) := by decide +kernel
theorem dX9_reckon_15 : decode cX9_reckon 15 = .ok (.aload_n 1, 1) := by decide +kernel
theorem dX9_reckon_16 : decode cX9_reckon 16 = .ok (.getfield 15, 3) := by decide +kernel
theorem dX9_reckon_19 : decode cX9_reckon 19 = .ok (.astore 5, 2) := by decide +kernel
theorem dX9_reckon_21 : decode cX9_reckon 21 = .ok (.iconst (-1), 1) := by decide +kernel
theorem dX9_reckon_22 : decode cX9_reckon 22 = .ok (.istore 6, 2) := by decide +kernel
theorem dX9_reckon_24 : decode cX9_reckon 24 = .ok (.iload_n 2, 1) := by decide +kernel
theorem dX9_reckon_25 : decode cX9_reckon 25 = .ok (.istore 7, 2) := by decide +kernel
theorem dX9_reckon_27 : decode cX9_reckon 27 = .ok (.iconst 0, 1) := by decide +kernel
theorem dX9_reckon_28 : decode cX9_reckon 28 = .ok (.istore 8, 2) := by decide +kernel
theorem dX9_reckon_30 : decode cX9_reckon 30 = .ok (.iload 8, 2) := by decide +kernel
theorem dX9_reckon_32 : decode cX9_reckon 32 = .ok (.aload 5, 2) := by decide +kernel
theorem dX9_reckon_34 : decode cX9_reckon 34 = .ok (.arraylength, 1) := by decide +kernel
theorem dX9_reckon_35 : decode cX9_reckon 35 = .ok (.if_icmp .ge 259, 3) := by decide +kernel
theorem dX9_reckon_38 : decode cX9_reckon 38 = .ok (.iload 7, 2) := by decide +kernel
theorem dX9_reckon_40 : decode cX9_reckon 40 = .ok (.ifCond .lt 254, 3) := by decide +kernel
theorem dX9_reckon_43 : decode cX9_reckon 43 = .ok (.iload 7, 2) := by decide +kernel
theorem dX9_reckon_45 : decode cX9_reckon 45 = .ok (.aload 5, 2) := by decide +kernel
theorem dX9_reckon_47 : decode cX9_reckon 47 = .ok (.arraylength, 1) := by decide +kernel
theorem dX9_reckon_48 : decode cX9_reckon 48 = .ok (.if_icmp .ge 246, 3) := by decide +kernel
theorem dX9_reckon_51 : decode cX9_reckon 51 = .ok (.aload 5, 2) := by decide +kernel
theorem dX9_reckon_53 : decode cX9_reckon 53 = .ok (.iload 7, 2) := by decide +kernel
theorem dX9_reckon_55 : decode cX9_reckon 55 = .ok (.iaload, 1) := by decide +kernel
theorem dX9_reckon_56 : decode cX9_reckon 56 = .ok (.bipush 10, 2) := by decide +kernel
theorem dX9_reckon_58 : decode cX9_reckon 58 = .ok (.ishr, 1) := by decide +kernel
theorem dX9_reckon_59 : decode cX9_reckon 59 = .ok (.istore 9, 2) := by decide +kernel
theorem dX9_reckon_61 : decode cX9_reckon 61 = .ok (.aload 5, 2) := by decide +kernel
theorem dX9_reckon_63 : decode cX9_reckon 63 = .ok (.iload 7, 2) := by decide +kernel
theorem dX9_reckon_65 : decode cX9_reckon 65 = .ok (.iaload, 1) := by decide +kernel
theorem dX9_reckon_66 : decode cX9_reckon 66 = .ok (.sipush 1023, 3) := by decide +kernel
theorem dX9_reckon_69 : decode cX9_reckon 69 = .ok (.iand, 1) := by decide +kernel
theorem dX9_reckon_70 : decode cX9_reckon 70 = .ok (.istore 10, 2) := by decide +kernel
theorem dX9_reckon_72 : decode cX9_reckon 72 = .ok (.iinc 7 1, 3) := by decide +kernel
theorem dX9_reckon_75 : decode cX9_reckon 75 = .ok (.iload 9, 2) := by decide +kernel
theorem dX9_reckon_77 : decode cX9_reckon 77 = .ok (.iconst 1, 1) := by decide +kernel
theorem dX9_reckon_78 : decode cX9_reckon 78 = .ok (.if_icmp .eq 9, 3) := by decide +kernel
theorem dX9_reckon_81 : decode cX9_reckon 81 = .ok (.iload 9, 2) := by decide +kernel
theorem dX9_reckon_83 : decode cX9_reckon 83 = .ok (.iconst 2, 1) := by decide +kernel
theorem dX9_reckon_84 : decode cX9_reckon 84 = .ok (.if_icmp .ne 57, 3) := by decide +kernel
theorem dX9_reckon_87 : decode cX9_reckon 87 = .ok (.iinc 6 1, 3) := by decide +kernel
theorem dX9_reckon_90 : decode cX9_reckon 90 = .ok (.iload 6, 2) := by decide +kernel
theorem dX9_reckon_92 : decode cX9_reckon 92 = .ok (.aload_n 0, 1) := by decide +kernel
theorem dX9_reckon_93 : decode cX9_reckon 93 = .ok (.getfield 9, 3) := by decide +kernel
theorem dX9_reckon_96 : decode cX9_reckon 96 = .ok (.arraylength, 1) := by decide +kernel
theorem dX9_reckon_97 : decode cX9_reckon 97 = .ok (.if_icmp .ge 16, 3) := by decide +kernel
theorem dX9_reckon_100 : decode cX9_reckon 100 = .ok (.iload 9, 2) := by decide +kernel
theorem dX9_reckon_102 : decode cX9_reckon 102 = .ok (.iconst 2, 1) := by decide +kernel
theorem dX9_reckon_103 : decode cX9_reckon 103 = .ok (.if_icmp .ne 13, 3) := by decide +kernel
theorem dX9_reckon_106 : decode cX9_reckon 106 = .ok (.iload 10, 2) := by decide +kernel
theorem dX9_reckon_108 : decode cX9_reckon 108 = .ok (.aload_n 3, 1) := by decide +kernel
theorem dX9_reckon_109 : decode cX9_reckon 109 = .ok (.arraylength, 1) := by decide +kernel
theorem dX9_reckon_110 : decode cX9_reckon 110 = .ok (.if_icmp .lt 6, 3) := by decide +kernel
theorem dX9_reckon_113 : decode cX9_reckon 113 = .ok (.ldc 20, 2) := by decide +kernel
theorem dX9_reckon_115 : decode cX9_reckon 115 = .ok (.ireturn, 1) := by decide +kernel
theorem dX9_reckon_116 : decode cX9_reckon 116 = .ok (.aload_n 0, 1) := by decide +kernel
theorem dX9_reckon_117 : decode cX9_reckon 117 = .ok (.getfield 9, 3) := by decide +kernel
theorem dX9_reckon_120 : decode cX9_reckon 120 = .ok (.iload 6, 2) := by decide +kernel
theorem dX9_reckon_122 : decode cX9_reckon 122 = .ok (.iload 9, 2) := by decide +kernel
theorem dX9_reckon_124 : decode cX9_reckon 124 = .ok (.iconst 1, 1) := by decide +kernel
theorem dX9_reckon_125 : decode cX9_reckon 125 = .ok (.if_icmp .ne 8, 3) := by decide +kernel
theorem dX9_reckon_128 : decode cX9_reckon 128 = .ok (.iload 10, 2) := by decide +kernel
theorem dX9_reckon_130 : decode cX9_reckon 130 = .ok (.goto 7, 3) := by decide +kernel
theorem dX9_reckon_133 : decode cX9_reckon 133 = .ok (.aload_n 3, 1) := by decide +kernel
theorem dX9_reckon_134 : decode cX9_reckon 134 = .ok (.iload 10, 2) := by decide +kernel
theorem dX9_reckon_136 : decode cX9_reckon 136 = .ok (.iaload, 1) := by decide +kernel
theorem dX9_reckon_137 : decode cX9_reckon 137 = .ok (.iastore, 1) := by decide +kernel
theorem dX9_reckon_138 : decode cX9_reckon 138 = .ok (.goto 150, 3) := by decide +kernel
theorem dX9_reckon_141 : decode cX9_reckon 141 = .ok (.iload 6, 2) := by decide +kernel
theorem dX9_reckon_143 : decode cX9_reckon 143 = .ok (.ifCond .ge 6, 3) := by decide +kernel
theorem dX9_reckon_146 : decode cX9_reckon 146 = .ok (.ldc 20, 2) := by decide +kernel
theorem dX9_reckon_148 : decode cX9_reckon 148 = .ok (.ireturn, 1) := by decide +kernel
theorem dX9_reckon_149 : decode cX9_reckon 149 = .ok (.iload 9, 2) := by decide +kernel
theorem dX9_reckon_151 : decode cX9_reckon 151 = .ok (.ifCond .ne 11, 3) := by decide +kernel
theorem dX9_reckon_154 : decode cX9_reckon 154 = .ok (.aload_n 0, 1) := by decide +kernel
theorem dX9_reckon_155 : decode cX9_reckon 155 = .ok (.getfield 9, 3) := by decide +kernel
theorem dX9_reckon_158 : decode cX9_reckon 158 = .ok (.iload 6, 2) := by decide +kernel
theorem dX9_reckon_160 : decode cX9_reckon 160 = .ok (.iaload, 1) := by decide +kernel
theorem dX9_reckon_161 : decode cX9_reckon 161 = .ok (.ireturn, 1) := by decide +kernel
theorem dX9_reckon_162 : decode cX9_reckon 162 = .ok (.iload 9, 2) := by decide +kernel
theorem dX9_reckon_164 : decode cX9_reckon 164 = .ok (.iconst 3, 1) := by decide +kernel
theorem dX9_reckon_165 : decode cX9_reckon 165 = .ok (.if_icmp .ne 22, 3) := by decide +kernel
theorem dX9_reckon_168 : decode cX9_reckon 168 = .ok (.aload_n 0, 1) := by decide +kernel
theorem dX9_reckon_169 : decode cX9_reckon 169 = .ok (.getfield 9, 3) := by decide +kernel
theorem dX9_reckon_172 : decode cX9_reckon 172 = .ok (.iload 6, 2) := by decide +kernel
theorem dX9_reckon_174 : decode cX9_reckon 174 = .ok (.iconst 1, 1) := by decide +kernel
theorem dX9_reckon_175 : decode cX9_reckon 175 = .ok (.aload_n 0, 1) := by decide +kernel
theorem dX9_reckon_176 : decode cX9_reckon 176 = .ok (.getfield 9, 3) := by decide +kernel
theorem dX9_reckon_179 : decode cX9_reckon 179 = .ok (.iload 6, 2) := by decide +kernel
theorem dX9_reckon_181 : decode cX9_reckon 181 = .ok (.iaload, 1) := by decide +kernel
theorem dX9_reckon_182 : decode cX9_reckon 182 = .ok (.isub, 1) := by decide +kernel
theorem dX9_reckon_183 : decode cX9_reckon 183 = .ok (.iastore, 1) := by decide +kernel
theorem dX9_reckon_184 : decode cX9_reckon 184 = .ok (.goto 104, 3) := by decide +kernel
theorem dX9_reckon_187 : decode cX9_reckon 187 = .ok (.iload 9, 2) := by decide +kernel
theorem dX9_reckon_189 : decode cX9_reckon 189 = .ok (.iconst 4, 1) := by decide +kernel
theorem dX9_reckon_190 : decode cX9_reckon 190 = .ok (.if_icmp .eq 9, 3) := by decide +kernel
theorem dX9_reckon_193 : decode cX9_reckon 193 = .ok (.iload 9, 2) := by decide +kernel
theorem dX9_reckon_195 : decode cX9_reckon 195 = .ok (.iconst 5, 1) := by decide +kernel
theorem dX9_reckon_196 : decode cX9_reckon 196 = .ok (.if_icmp .ne 37, 3) := by decide +kernel
theorem dX9_reckon_199 : decode cX9_reckon 199 = .ok (.aload_n 0, 1) := by decide +kernel
theorem dX9_reckon_200 : decode cX9_reckon 200 = .ok (.getfield 9, 3) := by decide +kernel
theorem dX9_reckon_203 : decode cX9_reckon 203 = .ok (.iload 6, 2) := by decide +kernel
theorem dX9_reckon_205 : decode cX9_reckon 205 = .ok (.iaload, 1) := by decide +kernel
theorem dX9_reckon_206 : decode cX9_reckon 206 = .ok (.iload 9, 2) := by decide +kernel
theorem dX9_reckon_208 : decode cX9_reckon 208 = .ok (.iconst 4, 1) := by decide +kernel
theorem dX9_reckon_209 : decode cX9_reckon 209 = .ok (.if_icmp .ne 7, 3) := by decide +kernel
theorem dX9_reckon_212 : decode cX9_reckon 212 = .ok (.iconst 1, 1) := by decide +kernel
theorem dX9_reckon_213 : decode cX9_reckon 213 = .ok (.goto 4, 3) := by decide +kernel
theorem dX9_reckon_216 : decode cX9_reckon 216 = .ok (.iconst 0, 1) := by decide +kernel
theorem dX9_reckon_217 : decode cX9_reckon 217 = .ok (.if_icmp .ne 10, 3) := by decide +kernel
theorem dX9_reckon_220 : decode cX9_reckon 220 = .ok (.iload 10, 2) := by decide +kernel
theorem dX9_reckon_222 : decode cX9_reckon 222 = .ok (.istore 7, 2) := by decide +kernel
theorem dX9_reckon_224 : decode cX9_reckon 224 = .ok (.goto 64, 3) := by decide +kernel
theorem dX9_reckon_227 : decode cX9_reckon 227 = .ok (.iinc 6 (-1), 3) := by decide +kernel
theorem dX9_reckon_230 : decode cX9_reckon 230 = .ok (.goto 58, 3) := by decide +kernel
theorem dX9_reckon_233 : decode cX9_reckon 233 = .ok (.iinc 6 (-1), 3) := by decide +kernel
theorem dX9_reckon_236 : decode cX9_reckon 236 = .ok (.iload 6, 2) := by decide +kernel
theorem dX9_reckon_238 : decode cX9_reckon 238 = .ok (.ifCond .ge 8, 3) := by decide +kernel
theorem dX9_reckon_241 : decode cX9_reckon 241 = .ok (.ldc 20, 2) := by decide +kernel
theorem dX9_reckon_243 : decode cX9_reckon 243 = .ok (.goto 24, 3) := by decide +kernel
theorem dX9_reckon_246 : decode cX9_reckon 246 = .ok (.iload 9, 2) := by decide +kernel
theorem dX9_reckon_248 : decode cX9_reckon 248 = .ok (.aload_n 0, 1) := by decide +kernel
theorem dX9_reckon_249 : decode cX9_reckon 249 = .ok (.getfield 9, 3) := by decide +kernel
theorem dX9_reckon_252 : decode cX9_reckon 252 = .ok (.iload 6, 2) := by decide +kernel
theorem dX9_reckon_254 : decode cX9_reckon 254 = .ok (.iaload, 1) := by decide +kernel
theorem dX9_reckon_255 : decode cX9_reckon 255 = .ok (.aload_n 0, 1) := by decide +kernel
theorem dX9_reckon_256 : decode cX9_reckon 256 = .ok (.getfield 9, 3) := by decide +kernel
theorem dX9_reckon_259 : decode cX9_reckon 259 = .ok (.iload 6, 2) := by decide +kernel
theorem dX9_reckon_261 : decode cX9_reckon 261 = .ok (.iconst 1, 1) := by decide +kernel
theorem dX9_reckon_262 : decode cX9_reckon 262 = .ok (.iadd, 1) := by decide +kernel
theorem dX9_reckon_263 : decode cX9_reckon 263 = .ok (.iaload, 1) := by decide +kernel
theorem dX9_reckon_264 : decode cX9_reckon 264 = .ok (.invokestatic 21, 3) := by decide +kernel
theorem dX9_reckon_267 : decode cX9_reckon 267 = .ok (.istore 11, 2) := by decide +kernel
theorem dX9_reckon_269 : decode cX9_reckon 269 = .ok (.iload 11, 2) := by decide +kernel
theorem dX9_reckon_271 : decode cX9_reckon 271 = .ok (.ldc 20, 2) := by decide +kernel
theorem dX9_reckon_273 : decode cX9_reckon 273 = .ok (.if_icmp .ne 6, 3) := by decide +kernel
theorem dX9_reckon_276 : decode cX9_reckon 276 = .ok (.ldc 20, 2) := by decide +kernel
theorem dX9_reckon_278 : decode cX9_reckon 278 = .ok (.ireturn, 1) := by decide +kernel
theorem dX9_reckon_279 : decode cX9_reckon 279 = .ok (.aload_n 0, 1) := by decide +kernel
theorem dX9_reckon_280 : decode cX9_reckon 280 = .ok (.getfield 9, 3) := by decide +kernel
theorem dX9_reckon_283 : decode cX9_reckon 283 = .ok (.iload 6, 2) := by decide +kernel
theorem dX9_reckon_285 : decode cX9_reckon 285 = .ok (.iload 11, 2) := by decide +kernel
theorem dX9_reckon_287 : decode cX9_reckon 287 = .ok (.iastore, 1) := by decide +kernel
theorem dX9_reckon_288 : decode cX9_reckon 288 = .ok (.iinc 8 1, 3) := by decide +kernel
theorem dX9_reckon_291 : decode cX9_reckon 291 = .ok (.goto (-261), 3) := by decide +kernel
theorem dX9_reckon_294 : decode cX9_reckon 294 = .ok (.ldc 20, 2) := by decide +kernel
theorem dX9_reckon_296 : decode cX9_reckon 296 = .ok (.ireturn, 1) := by decide +kernel
abbrev mX9_reckon : zq_M := (cX9_reckon, RX9, "reckon", (some .int), 12)
theorem dX9_ofTwo_0 : decode cX9_ofTwo 0 = .ok (.iload_n 0, 1) := by decide +kernel
theorem dX9_ofTwo_1 : decode cX9_ofTwo 1 = .ok (.tableswitch 118 6 12 #[43, 52, 61, 70, 83, 96, 107], 43) := by decide +kernel
theorem dX9_ofTwo_44 : decode cX9_ofTwo 44 = .ok (.iload_n 1, 1) := by decide +kernel
theorem dX9_ofTwo_45 : decode cX9_ofTwo 45 = .ok (.i2l, 1) := by decide +kernel
theorem dX9_ofTwo_46 : decode cX9_ofTwo 46 = .ok (.iload_n 2, 1) := by decide +kernel
theorem dX9_ofTwo_47 : decode cX9_ofTwo 47 = .ok (.i2l, 1) := by decide +kernel
theorem dX9_ofTwo_48 : decode cX9_ofTwo 48 = .ok (.ladd, 1) := by decide +kernel
theorem dX9_ofTwo_49 : decode cX9_ofTwo 49 = .ok (.lstore_n 3, 1) := by decide +kernel
theorem dX9_ofTwo_50 : decode cX9_ofTwo 50 = .ok (.goto 80, 3) := by decide +kernel
theorem dX9_ofTwo_53 : decode cX9_ofTwo 53 = .ok (.iload_n 1, 1) := by decide +kernel
theorem dX9_ofTwo_54 : decode cX9_ofTwo 54 = .ok (.i2l, 1) := by decide +kernel
theorem dX9_ofTwo_55 : decode cX9_ofTwo 55 = .ok (.iload_n 2, 1) := by decide +kernel
theorem dX9_ofTwo_56 : decode cX9_ofTwo 56 = .ok (.i2l, 1) := by decide +kernel
theorem dX9_ofTwo_57 : decode cX9_ofTwo 57 = .ok (.lsub, 1) := by decide +kernel
theorem dX9_ofTwo_58 : decode cX9_ofTwo 58 = .ok (.lstore_n 3, 1) := by decide +kernel
theorem dX9_ofTwo_59 : decode cX9_ofTwo 59 = .ok (.goto 71, 3) := by decide +kernel
theorem dX9_ofTwo_62 : decode cX9_ofTwo 62 = .ok (.iload_n 1, 1) := by decide +kernel
theorem dX9_ofTwo_63 : decode cX9_ofTwo 63 = .ok (.i2l, 1) := by decide +kernel
theorem dX9_ofTwo_64 : decode cX9_ofTwo 64 = .ok (.iload_n 2, 1) := by decide +kernel
theorem dX9_ofTwo_65 : decode cX9_ofTwo 65 = .ok (.i2l, 1) := by decide +kernel
theorem dX9_ofTwo_66 : decode cX9_ofTwo 66 = .ok (.lmul, 1) := by decide +kernel
theorem dX9_ofTwo_67 : decode cX9_ofTwo 67 = .ok (.lstore_n 3, 1) := by decide +kernel
theorem dX9_ofTwo_68 : decode cX9_ofTwo 68 = .ok (.goto 62, 3) := by decide +kernel
theorem dX9_ofTwo_71 : decode cX9_ofTwo 71 = .ok (.iload_n 2, 1) := by decide +kernel
theorem dX9_ofTwo_72 : decode cX9_ofTwo 72 = .ok (.ifCond .ne 8, 3) := by decide +kernel
theorem dX9_ofTwo_75 : decode cX9_ofTwo 75 = .ok (.ldc 20, 2) := by decide +kernel
theorem dX9_ofTwo_77 : decode cX9_ofTwo 77 = .ok (.goto 6, 3) := by decide +kernel
theorem dX9_ofTwo_80 : decode cX9_ofTwo 80 = .ok (.iload_n 1, 1) := by decide +kernel
theorem dX9_ofTwo_81 : decode cX9_ofTwo 81 = .ok (.iload_n 2, 1) := by decide +kernel
theorem dX9_ofTwo_82 : decode cX9_ofTwo 82 = .ok (.idiv, 1) := by decide +kernel
theorem dX9_ofTwo_83 : decode cX9_ofTwo 83 = .ok (.ireturn, 1) := by decide +kernel
theorem dX9_ofTwo_84 : decode cX9_ofTwo 84 = .ok (.iload_n 2, 1) := by decide +kernel
theorem dX9_ofTwo_85 : decode cX9_ofTwo 85 = .ok (.ifCond .ne 8, 3) := by decide +kernel
theorem dX9_ofTwo_88 : decode cX9_ofTwo 88 = .ok (.ldc 20, 2) := by decide +kernel
theorem dX9_ofTwo_90 : decode cX9_ofTwo 90 = .ok (.goto 6, 3) := by decide +kernel
theorem dX9_ofTwo_93 : decode cX9_ofTwo 93 = .ok (.iload_n 1, 1) := by decide +kernel
theorem dX9_ofTwo_94 : decode cX9_ofTwo 94 = .ok (.iload_n 2, 1) := by decide +kernel
theorem dX9_ofTwo_95 : decode cX9_ofTwo 95 = .ok (.irem, 1) := by decide +kernel
theorem dX9_ofTwo_96 : decode cX9_ofTwo 96 = .ok (.ireturn, 1) := by decide +kernel
theorem dX9_ofTwo_97 : decode cX9_ofTwo 97 = .ok (.iload_n 1, 1) := by decide +kernel
theorem dX9_ofTwo_98 : decode cX9_ofTwo 98 = .ok (.iload_n 2, 1) := by decide +kernel
theorem dX9_ofTwo_99 : decode cX9_ofTwo 99 = .ok (.if_icmp .ge 7, 3) := by decide +kernel
theorem dX9_ofTwo_102 : decode cX9_ofTwo 102 = .ok (.iconst 1, 1) := by decide +kernel
theorem dX9_ofTwo_103 : decode cX9_ofTwo 103 = .ok (.goto 4, 3) := by decide +kernel
theorem dX9_ofTwo_106 : decode cX9_ofTwo 106 = .ok (.iconst 0, 1) := by decide +kernel
theorem dX9_ofTwo_107 : decode cX9_ofTwo 107 = .ok (.ireturn, 1) := by decide +kernel
theorem dX9_ofTwo_108 : decode cX9_ofTwo 108 = .ok (.iload_n 1, 1) := by decide +kernel
theorem dX9_ofTwo_109 : decode cX9_ofTwo 109 = .ok (.iload_n 2, 1) := by decide +kernel
theorem dX9_ofTwo_110 : decode cX9_ofTwo 110 = .ok (.if_icmp .le 7, 3) := by decide +kernel
theorem dX9_ofTwo_113 : decode cX9_ofTwo 113 = .ok (.iconst 1, 1) := by decide +kernel
theorem dX9_ofTwo_114 : decode cX9_ofTwo 114 = .ok (.goto 4, 3) := by decide +kernel
theorem dX9_ofTwo_117 : decode cX9_ofTwo 117 = .ok (.iconst 0, 1) := by decide +kernel
theorem dX9_ofTwo_118 : decode cX9_ofTwo 118 = .ok (.ireturn, 1) := by decide +kernel
theorem dX9_ofTwo_119 : decode cX9_ofTwo 119 = .ok (.iload_n 1, 1) := by decide +kernel
theorem dX9_ofTwo_120 : decode cX9_ofTwo 120 = .ok (.iload_n 2, 1) := by decide +kernel
theorem dX9_ofTwo_121 : decode cX9_ofTwo 121 = .ok (.if_icmp .ne 7, 3) := by decide +kernel
theorem dX9_ofTwo_124 : decode cX9_ofTwo 124 = .ok (.iconst 1, 1) := by decide +kernel
theorem dX9_ofTwo_125 : decode cX9_ofTwo 125 = .ok (.goto 4, 3) := by decide +kernel
theorem dX9_ofTwo_128 : decode cX9_ofTwo 128 = .ok (.iconst 0, 1) := by decide +kernel
theorem dX9_ofTwo_129 : decode cX9_ofTwo 129 = .ok (.ireturn, 1) := by decide +kernel
theorem dX9_ofTwo_130 : decode cX9_ofTwo 130 = .ok (.lload_n 3, 1) := by decide +kernel
theorem dX9_ofTwo_131 : decode cX9_ofTwo 131 = .ok (.ldc2_w 25, 3) := by decide +kernel
theorem dX9_ofTwo_134 : decode cX9_ofTwo 134 = .ok (.lcmp, 1) := by decide +kernel
theorem dX9_ofTwo_135 : decode cX9_ofTwo 135 = .ok (.ifCond .lt 11, 3) := by decide +kernel
theorem dX9_ofTwo_138 : decode cX9_ofTwo 138 = .ok (.lload_n 3, 1) := by decide +kernel
theorem dX9_ofTwo_139 : decode cX9_ofTwo 139 = .ok (.ldc2_w 27, 3) := by decide +kernel
theorem dX9_ofTwo_142 : decode cX9_ofTwo 142 = .ok (.lcmp, 1) := by decide +kernel
theorem dX9_ofTwo_143 : decode cX9_ofTwo 143 = .ok (.ifCond .le 8, 3) := by decide +kernel
theorem dX9_ofTwo_146 : decode cX9_ofTwo 146 = .ok (.ldc 20, 2) := by decide +kernel
theorem dX9_ofTwo_148 : decode cX9_ofTwo 148 = .ok (.goto 5, 3) := by decide +kernel
theorem dX9_ofTwo_151 : decode cX9_ofTwo 151 = .ok (.lload_n 3, 1) := by decide +kernel
theorem dX9_ofTwo_152 : decode cX9_ofTwo 152 = .ok (.l2i, 1) := by decide +kernel
theorem dX9_ofTwo_153 : decode cX9_ofTwo 153 = .ok (.ireturn, 1) := by decide +kernel
abbrev mX9_ofTwo : zq_M := (cX9_ofTwo, RX9, "ofTwo", (some .int), 5)
section ZC11
variable {l : Launch} {G : zq_G} {D n : Nat} {f : Nat → zq_E} {κ : zl_S} {ρ : Nat → zq_E} {post : Option Value → Nat → (Nat → zq_E) → Prop}
theorem zc_ofTwo {o : Nat} {a b : Int32} (h6 : 6 ≤ o) (h14 : o < 1000) (hp : post (some (.int (zo2 o a b))) n f) : zq_Runs l G D 0 0 yX9_ofTwo [.int (nI o), .int a, .int b] n f post := by
  have ba := Int32.toInt_lt a
  have ba' := Int32.le_toInt a
  have bb := Int32.toInt_lt b
  have bb' := Int32.le_toInt b
  have hmul : -9000000000000000000 ≤ a.toInt * b.toInt ∧ a.toInt * b.toInt ≤ 9000000000000000000 := by
    have h1 : (a.toInt * b.toInt).natAbs ≤ 2147483648 * 2147483648 := by
      rw [Int.natAbs_mul]
      exact Nat.mul_le_mul (by omega) (by omega)
    omega
  have fin : ∀ z : Int, -9000000000000000000 ≤ z → z ≤ 9000000000000000000 → post (some (.int (zfar z))) n f → zq_At l G (zq_rm D 0 0) mX9_ofTwo (zq_QF G post 0 0) 130 [(0, .int (nI o)), (1, .int a), (2, .int b), (3, .long (zL z))] [] n f 0 0 := by
    intro z z1 z2 hp
    rw [← zL_far z1 z2] at hp
    refine at_lload_n dX9_ofTwo_130 rfl ?_
    refine at_ldc2 dX9_ofTwo_131 kl_X9_25 ?_
    refine at_lcmp dX9_ofTwo_134 ?_
    refine at_if_lt (tgt := 146) dX9_ofTwo_135 (by decide) (fun c135 => ?_) (fun c135 => ?_)
    · rw [lg_cmp_lt] at c135
      rw [if_pos c135] at hp
      refine at_ldc dX9_ofTwo_146 (v := -2000000000) kc_X9_20 ?_
      refine at_goto (tgt := 153) dX9_ofTwo_148 (by decide) ?_
      refine at_iret dX9_ofTwo_153 rfl (by omega) (by omega) ?_
      exact hp
    · rw [lg_cmp_lt] at c135
      rw [if_neg c135] at hp
      refine at_lload_n dX9_ofTwo_138 rfl ?_
      refine at_ldc2 dX9_ofTwo_139 kl_X9_27 ?_
      refine at_lcmp dX9_ofTwo_142 ?_
      refine at_if_le (tgt := 151) dX9_ofTwo_143 (by decide) (fun c143 => ?_) (fun c143 => ?_)
      · rw [lg_cmp_le] at c143
        rw [if_pos c143] at hp
        refine at_lload_n dX9_ofTwo_151 rfl ?_
        refine at_l2i dX9_ofTwo_152 ?_
        refine at_iret dX9_ofTwo_153 rfl (by omega) (by omega) ?_
        exact hp
      · rw [lg_cmp_le] at c143
        rw [if_neg c143] at hp
        refine at_ldc dX9_ofTwo_146 (v := -2000000000) kc_X9_20 ?_
        refine at_goto (tgt := 153) dX9_ofTwo_148 (by decide) ?_
        refine at_iret dX9_ofTwo_153 rfl (by omega) (by omega) ?_
        exact hp
  unfold zo2 at hp
  refine zq_enter (cc := cX9_ofTwo) (nL := 5) (ret := (some .int)) cw_X9_ofTwo (by decide) rfl (Nat.le_of_ble_eq_true rfl) ?_
  refine at_iload_n dX9_ofTwo_0 rfl ?_
  by_cases h12 : o ≤ 12
  · rcases (show o = 6 ∨ o = 7 ∨ o = 8 ∨ o = 9 ∨ o = 10 ∨ o = 11 ∨ o = 12 by omega) with rfl | rfl | rfl | rfl | rfl | rfl | rfl
    · refine at_tableIn (tgt := 44) dX9_ofTwo_1 (by decide) (by decide) rfl (by decide) ?_
      rw [if_pos rfl] at hp
      refine at_iload_n dX9_ofTwo_44 rfl ?_
      refine at_i2l dX9_ofTwo_45 ?_
      refine at_iload_n dX9_ofTwo_46 rfl ?_
      refine at_i2l dX9_ofTwo_47 ?_
      rw [zL_i, zL_i]
      refine at_ladd dX9_ofTwo_48 ?_
      rw [zL_add]
      refine at_lstore_n dX9_ofTwo_49 rfl (by decide) ?_
      refine at_goto (tgt := 130) dX9_ofTwo_50 (by decide) ?_
      exact fin _ (by omega) (by omega) hp
    · refine at_tableIn (tgt := 53) dX9_ofTwo_1 (by decide) (by decide) rfl (by decide) ?_
      rw [if_neg (by decide), if_pos rfl] at hp
      refine at_iload_n dX9_ofTwo_53 rfl ?_
      refine at_i2l dX9_ofTwo_54 ?_
      refine at_iload_n dX9_ofTwo_55 rfl ?_
      refine at_i2l dX9_ofTwo_56 ?_
      rw [zL_i, zL_i]
      refine at_lsub dX9_ofTwo_57 ?_
      rw [zL_sub]
      refine at_lstore_n dX9_ofTwo_58 rfl (by decide) ?_
      refine at_goto (tgt := 130) dX9_ofTwo_59 (by decide) ?_
      exact fin _ (by omega) (by omega) hp
    · refine at_tableIn (tgt := 62) dX9_ofTwo_1 (by decide) (by decide) rfl (by decide) ?_
      rw [if_neg (by decide), if_neg (by decide), if_pos rfl] at hp
      refine at_iload_n dX9_ofTwo_62 rfl ?_
      refine at_i2l dX9_ofTwo_63 ?_
      refine at_iload_n dX9_ofTwo_64 rfl ?_
      refine at_i2l dX9_ofTwo_65 ?_
      rw [zL_i, zL_i]
      refine at_lmul dX9_ofTwo_66 ?_
      rw [zL_mul]
      refine at_lstore_n dX9_ofTwo_67 rfl (by decide) ?_
      refine at_goto (tgt := 130) dX9_ofTwo_68 (by decide) ?_
      exact fin _ hmul.1 hmul.2 hp
    · refine at_tableIn (tgt := 71) dX9_ofTwo_1 (by decide) (by decide) rfl (by decide) ?_
      rw [if_neg (by decide), if_neg (by decide), if_neg (by decide), if_pos rfl] at hp
      refine at_iload_n dX9_ofTwo_71 rfl ?_
      refine at_if_ne (tgt := 80) dX9_ofTwo_72 (by decide) (fun c72 => ?_) (fun c72 => ?_)
      · rw [if_neg c72] at hp
        refine at_iload_n dX9_ofTwo_80 rfl ?_
        refine at_iload_n dX9_ofTwo_81 rfl ?_
        refine at_idiv dX9_ofTwo_82 c72 ?_
        refine at_iret dX9_ofTwo_83 rfl (by omega) (by omega) ?_
        exact hp
      · rw [if_pos c72] at hp
        refine at_ldc dX9_ofTwo_75 (v := -2000000000) kc_X9_20 ?_
        refine at_goto (tgt := 83) dX9_ofTwo_77 (by decide) ?_
        refine at_iret dX9_ofTwo_83 rfl (by omega) (by omega) ?_
        exact hp
    · refine at_tableIn (tgt := 84) dX9_ofTwo_1 (by decide) (by decide) rfl (by decide) ?_
      rw [if_neg (by decide), if_neg (by decide), if_neg (by decide), if_neg (by decide), if_pos rfl] at hp
      refine at_iload_n dX9_ofTwo_84 rfl ?_
      refine at_if_ne (tgt := 93) dX9_ofTwo_85 (by decide) (fun c85 => ?_) (fun c85 => ?_)
      · rw [if_neg c85] at hp
        refine at_iload_n dX9_ofTwo_93 rfl ?_
        refine at_iload_n dX9_ofTwo_94 rfl ?_
        refine at_irem dX9_ofTwo_95 c85 ?_
        refine at_iret dX9_ofTwo_96 rfl (by omega) (by omega) ?_
        exact hp
      · rw [if_pos c85] at hp
        refine at_ldc dX9_ofTwo_88 (v := -2000000000) kc_X9_20 ?_
        refine at_goto (tgt := 96) dX9_ofTwo_90 (by decide) ?_
        refine at_iret dX9_ofTwo_96 rfl (by omega) (by omega) ?_
        exact hp
    · refine at_tableIn (tgt := 97) dX9_ofTwo_1 (by decide) (by decide) rfl (by decide) ?_
      rw [if_neg (by decide), if_neg (by decide), if_neg (by decide), if_neg (by decide), if_neg (by decide), if_pos rfl] at hp
      refine at_iload_n dX9_ofTwo_97 rfl ?_
      refine at_iload_n dX9_ofTwo_98 rfl ?_
      refine at_icmp_ge (tgt := 106) dX9_ofTwo_99 (by decide) (fun c99 => ?_) (fun c99 => ?_)
      · rw [if_neg (Int32.not_lt.mpr c99)] at hp
        refine at_iconst dX9_ofTwo_106 (v := nI 0) (by decide) ?_
        refine at_iret dX9_ofTwo_107 rfl (by omega) (by omega) ?_
        exact hp
      · rw [if_pos (Int32.not_le.mp c99)] at hp
        refine at_iconst dX9_ofTwo_102 (v := nI 1) (by decide) ?_
        refine at_goto (tgt := 107) dX9_ofTwo_103 (by decide) ?_
        refine at_iret dX9_ofTwo_107 rfl (by omega) (by omega) ?_
        exact hp
    · refine at_tableIn (tgt := 108) dX9_ofTwo_1 (by decide) (by decide) rfl (by decide) ?_
      rw [if_neg (by decide), if_neg (by decide), if_neg (by decide), if_neg (by decide), if_neg (by decide), if_neg (by decide), if_pos rfl] at hp
      refine at_iload_n dX9_ofTwo_108 rfl ?_
      refine at_iload_n dX9_ofTwo_109 rfl ?_
      refine at_icmp_le (tgt := 117) dX9_ofTwo_110 (by decide) (fun c110 => ?_) (fun c110 => ?_)
      · rw [if_neg (Int32.not_lt.mpr c110)] at hp
        refine at_iconst dX9_ofTwo_117 (v := nI 0) (by decide) ?_
        refine at_iret dX9_ofTwo_118 rfl (by omega) (by omega) ?_
        exact hp
      · rw [if_pos (Int32.not_le.mp c110)] at hp
        refine at_iconst dX9_ofTwo_113 (v := nI 1) (by decide) ?_
        refine at_goto (tgt := 118) dX9_ofTwo_114 (by decide) ?_
        refine at_iret dX9_ofTwo_118 rfl (by omega) (by omega) ?_
        exact hp
  · refine at_tableOut (tgt := 119) dX9_ofTwo_1 (Or.inr (by rw [nI_toInt (by omega)]; omega)) (by decide) ?_
    rw [if_neg (by omega), if_neg (by omega), if_neg (by omega), if_neg (by omega), if_neg (by omega), if_neg (by omega), if_neg (by omega)] at hp
    refine at_iload_n dX9_ofTwo_119 rfl ?_
    refine at_iload_n dX9_ofTwo_120 rfl ?_
    refine at_icmp_ne (tgt := 128) dX9_ofTwo_121 (by decide) (fun c121 => ?_) (fun c121 => ?_)
    · rw [if_neg c121] at hp
      refine at_iconst dX9_ofTwo_128 (v := nI 0) (by decide) ?_
      refine at_iret dX9_ofTwo_129 rfl (by omega) (by omega) ?_
      exact hp
    · rw [if_pos c121] at hp
      refine at_iconst dX9_ofTwo_124 (v := nI 1) (by decide) ?_
      refine at_goto (tgt := 129) dX9_ofTwo_125 (by decide) ?_
      refine at_iret dX9_ofTwo_129 rfl (by omega) (by omega) ?_
      exact hp
/-- a text's code: N places in the row cp -/
def zCp (ρ : Nat → zq_E) (cp N : Nat) (cd : Nat → Nat × Nat) : Prop := ∃ code, ρ cp = .inl (0, N, .inl code) ∧ 70 ≤ cp ∧ N ≤ 800 ∧ ∀ k, k < N → code k = nI (1024 * (cd k).1 + (cd k).2) ∧ (cd k).1 < 14 ∧ (cd k).2 < 1024
def zrs2 (r : Option Int32) : Int32 := r.getD zBrk
theorem zc_rk_back {tx wa cp p q t : Nat} {s0 wo x6 : Int32} {a : Nat → Int32} (hn : zq_At l G (zq_rm D 0 0) mX9_reckon (zq_QF G post 0 0) 30 [(0, .ref 53), (1, .ref tx), (2, .int s0), (3, .ref wa), (4, .int wo), (5, .ref cp), (6, .int (x6)), (7, .int (nI (p))), (8, .int (nI (q + 1)))] [] n (zl_h (zl_sA κ 54 (a)) ρ) 0 0) (ex : List (Nat × Value)) (hex : zq_pick ([(0, .ref 53), (1, .ref tx), (2, .int s0), (3, .ref wa), (4, .int wo), (5, .ref cp), (6, .int (x6)), (7, .int (nI (p))), (8, .int (nI (q)))] ++ ex) [0, 1, 2, 3, 4, 5, 6, 7, 8] = [(0, .ref 53), (1, .ref tx), (2, .int s0), (3, .ref wa), (4, .int wo), (5, .ref cp), (6, .int (x6)), (7, .int (nI (p))), (8, .int (nI (q)))]) : zq_At l G (zq_rm D 0 0) mX9_reckon (zq_QF G post 0 0) 288 ([(0, .ref 53), (1, .ref tx), (2, .int s0), (3, .ref wa), (4, .int wo), (5, .ref cp), (6, .int (x6)), (7, .int (nI (p))), (8, .int (nI (q)))] ++ ex) [] n (zl_h (zl_sA κ 54 a) ρ) 0 0 := by
  refine at_lv [0, 1, 2, 3, 4, 5, 6, 7, 8] ?_
  rw [hex]
  refine at_iincN dX9_reckon_288 rfl (by decide) ?_
  refine at_goto (tgt := 30) dX9_reckon_291 (by decide) ?_
  exact hn
theorem zc_rk_push {tx wa cp p q o ar NW : Nat} {s0 wo : Int32} {st : List Int32} {a : Nat → Int32} (ha : zl_isA wa = true) (hw : wa ≠ 54) (hl : zl_len wa = NW) (hNW : NW < 1000) (ho : o = 1 ∨ o = 2) (har : ar < 1024) (hL : st.length ≤ 32)
    (hbrk : (32 ≤ st.length ∨ (o = 2 ∧ NW ≤ ar)) → post (some (.int zBrk)) n (zl_h (zl_sA κ 54 a) ρ)) (hn : ¬ (32 ≤ st.length ∨ (o = 2 ∧ NW ≤ ar)) → zq_At l G (zq_rm D 0 0) mX9_reckon (zq_QF G post 0 0) 30 [(0, .ref 53), (1, .ref tx), (2, .int s0), (3, .ref wa), (4, .int wo), (5, .ref cp), (6, .int (nI st.length)), (7, .int (nI (p))), (8, .int (nI (q + 1)))] [] n (zl_h (zl_sA κ 54 (upd a st.length (if o = 1 then nI ar else κ.2.1 wa ar))) ρ) 0 0) : zq_At l G (zq_rm D 0 0) mX9_reckon (zq_QF G post 0 0) 75 [(0, .ref 53), (1, .ref tx), (2, .int s0), (3, .ref wa), (4, .int wo), (5, .ref cp), (6, .int (nI st.length - 1)), (7, .int (nI (p))), (8, .int (nI (q))), (9, .int (nI o)), (10, .int (nI ar))] [] n (zl_h (zl_sA κ 54 (a)) ρ) 0 0 := by
  have inc1 : nI st.length - 1 + Int32.ofInt 1 = nI st.length := by rw [Int32.sub_eq_add_neg, Int32.add_assoc]; exact Int32.add_zero _
  have hwx : (zl_sA κ 54 a).2.1 wa = κ.2.1 wa := zlA_o _ hw a
  refine at_iload dX9_reckon_75 rfl ?_
  refine at_iconst dX9_reckon_77 (v := nI 1) (by decide) ?_
  refine at_eqN (tgt := 87) dX9_reckon_78 (by decide) (by omega) (by omega) (fun c78 => ?_) (fun c78 => ?_)
  · refine at_iinc dX9_reckon_87 rfl rfl (by decide) ?_
    rw [show nI st.length - 1 + Int32.ofInt 1 = nI st.length from inc1]
    refine at_iload dX9_reckon_90 rfl ?_
    refine at_aload_n dX9_reckon_92 rfl ?_
    refine at_get dX9_reckon_93 fl_X9_9 (zl_o rfl) rfl ?_
    refine at_alen dX9_reckon_96 (zl_a (a := 54) rfl) (by decide) (v := nI 32) rfl ?_
    refine at_geN (tgt := 113) dX9_reckon_97 (by decide) (by omega) (by omega) (fun c97 => ?_) (fun c97 => ?_)
    · have hp := hbrk (Or.inl c97)
      refine at_ldc dX9_reckon_113 (v := -2000000000) kc_X9_20 ?_
      refine at_iret dX9_reckon_115 rfl (by omega) (by omega) ?_
      exact hp
    · refine at_iload dX9_reckon_100 rfl ?_
      refine at_iconst dX9_reckon_102 (v := nI 2) (by decide) ?_
      refine at_neN (tgt := 116) dX9_reckon_103 (by decide) (by omega) (by omega) (fun c103 => ?_) (fun c103 => ?_)
      · have hn := hn (by omega)
        rw [if_pos c78] at hn
        refine at_aload_n dX9_reckon_116 rfl ?_
        refine at_get dX9_reckon_117 fl_X9_9 (zl_o rfl) rfl ?_
        refine at_iload dX9_reckon_120 rfl ?_
        refine at_iload dX9_reckon_122 rfl ?_
        refine at_iconst dX9_reckon_124 (v := nI 1) (by decide) ?_
        refine at_neN (tgt := 133) dX9_reckon_125 (by decide) (by omega) (by omega) (fun c125 => ?_) (fun c125 => ?_)
        · omega
        · refine at_iload dX9_reckon_128 rfl ?_
          refine at_goto (tgt := 137) dX9_reckon_130 (by decide) ?_
          try rw [hwx]
          refine at_last2 (a := 54) dX9_reckon_137 rfl rfl (by show _ < 32; omega) (by decide) ?_
          rw [zlA_a]
          refine at_goto (tgt := 288) dX9_reckon_138 (by decide) ?_
          exact zc_rk_back (t := 0) hn [(9, .int (nI o)), (10, .int (nI ar))] rfl
      · omega
  · refine at_iload dX9_reckon_81 rfl ?_
    refine at_iconst dX9_reckon_83 (v := nI 2) (by decide) ?_
    refine at_neN (tgt := 141) dX9_reckon_84 (by decide) (by omega) (by omega) (fun c84 => ?_) (fun c84 => ?_)
    · omega
    · refine at_iinc dX9_reckon_87 rfl rfl (by decide) ?_
      rw [show nI st.length - 1 + Int32.ofInt 1 = nI st.length from inc1]
      refine at_iload dX9_reckon_90 rfl ?_
      refine at_aload_n dX9_reckon_92 rfl ?_
      refine at_get dX9_reckon_93 fl_X9_9 (zl_o rfl) rfl ?_
      refine at_alen dX9_reckon_96 (zl_a (a := 54) rfl) (by decide) (v := nI 32) rfl ?_
      refine at_geN (tgt := 113) dX9_reckon_97 (by decide) (by omega) (by omega) (fun c97 => ?_) (fun c97 => ?_)
      · have hp := hbrk (Or.inl c97)
        refine at_ldc dX9_reckon_113 (v := -2000000000) kc_X9_20 ?_
        refine at_iret dX9_reckon_115 rfl (by omega) (by omega) ?_
        exact hp
      · refine at_iload dX9_reckon_100 rfl ?_
        refine at_iconst dX9_reckon_102 (v := nI 2) (by decide) ?_
        refine at_neN (tgt := 116) dX9_reckon_103 (by decide) (by omega) (by omega) (fun c103 => ?_) (fun c103 => ?_)
        · omega
        · refine at_iload dX9_reckon_106 rfl ?_
          refine at_aload_n dX9_reckon_108 rfl ?_
          refine at_alen dX9_reckon_109 (zl_a ha) (by decide) (v := nI NW) (by rw [hl]; rfl) ?_
          refine at_ltN (tgt := 116) dX9_reckon_110 (by decide) (by omega) (by omega) (fun c110 => ?_) (fun c110 => ?_)
          · have hn := hn (by omega)
            rw [if_neg c78] at hn
            refine at_aload_n dX9_reckon_116 rfl ?_
            refine at_get dX9_reckon_117 fl_X9_9 (zl_o rfl) rfl ?_
            refine at_iload dX9_reckon_120 rfl ?_
            refine at_iload dX9_reckon_122 rfl ?_
            refine at_iconst dX9_reckon_124 (v := nI 1) (by decide) ?_
            refine at_neN (tgt := 133) dX9_reckon_125 (by decide) (by omega) (by omega) (fun c125 => ?_) (fun c125 => ?_)
            · refine at_aload_n dX9_reckon_133 rfl ?_
              refine at_iload dX9_reckon_134 rfl ?_
              refine at_lald2 dX9_reckon_136 ha rfl (by rw [hl]; omega) (by rw [hl]; first | decide | omega) ?_
              try rw [hwx]
              refine at_last2 (a := 54) dX9_reckon_137 rfl rfl (by show _ < 32; omega) (by decide) ?_
              rw [zlA_a]
              refine at_goto (tgt := 288) dX9_reckon_138 (by decide) ?_
              exact zc_rk_back (t := 0) hn [(9, .int (nI o)), (10, .int (nI ar))] rfl
            · omega
          · have hp := hbrk (Or.inr ⟨c84, c110⟩)
            refine at_ldc dX9_reckon_113 (v := -2000000000) kc_X9_20 ?_
            refine at_iret dX9_reckon_115 rfl (by omega) (by omega) ?_
            exact hp
theorem zc_rk_nil {tx wa cp p q o ar : Nat} {s0 wo : Int32} {a : Nat → Int32} (ho1 : o ≠ 1) (ho2 : o ≠ 2) (ho : o < 14) (hp : post (some (.int zBrk)) n (zl_h (zl_sA κ 54 a) ρ)) : zq_At l G (zq_rm D 0 0) mX9_reckon (zq_QF G post 0 0) 75 [(0, .ref 53), (1, .ref tx), (2, .int s0), (3, .ref wa), (4, .int wo), (5, .ref cp), (6, .int (nI 0 - 1)), (7, .int (nI (p))), (8, .int (nI (q))), (9, .int (nI o)), (10, .int (nI ar))] [] n (zl_h (zl_sA κ 54 (a)) ρ) 0 0 := by
  refine at_iload dX9_reckon_75 rfl ?_
  refine at_iconst dX9_reckon_77 (v := nI 1) (by decide) ?_
  refine at_eqN (tgt := 87) dX9_reckon_78 (by decide) (by omega) (by omega) (fun c78 => ?_) (fun c78 => ?_)
  · omega
  · refine at_iload dX9_reckon_81 rfl ?_
    refine at_iconst dX9_reckon_83 (v := nI 2) (by decide) ?_
    refine at_neN (tgt := 141) dX9_reckon_84 (by decide) (by omega) (by omega) (fun c84 => ?_) (fun c84 => ?_)
    · refine at_iload dX9_reckon_141 rfl ?_
      refine at_if_ge (tgt := 149) dX9_reckon_143 (by decide) (fun c143 => ?_) (fun c143 => ?_)
      · exact absurd c143 (by decide)
      · refine at_ldc dX9_reckon_146 (v := -2000000000) kc_X9_20 ?_
        refine at_iret dX9_reckon_148 rfl (by omega) (by omega) ?_
        exact hp
    · omega
theorem zc_rk_one {tx wa cp p q o ar : Nat} {s0 wo v : Int32} {r : List Int32} {a : Nat → Int32} (ho : o = 0 ∨ o = 3 ∨ o = 4 ∨ o = 5) (har : ar < 1024) (hL : r.length < 32) (htop : a r.length = v)
    (h0 : o = 0 → post (some (.int v)) n (zl_h (zl_sA κ 54 a) ρ)) (h3 : o = 3 → zq_At l G (zq_rm D 0 0) mX9_reckon (zq_QF G post 0 0) 30 [(0, .ref 53), (1, .ref tx), (2, .int s0), (3, .ref wa), (4, .int wo), (5, .ref cp), (6, .int (nI r.length)), (7, .int (nI (p))), (8, .int (nI (q + 1)))] [] n (zl_h (zl_sA κ 54 (upd a r.length (1 - v))) ρ) 0 0)
    (hj : o = 4 ∨ o = 5 → v = (if o = 4 then 1 else 0) → zq_At l G (zq_rm D 0 0) mX9_reckon (zq_QF G post 0 0) 30 [(0, .ref 53), (1, .ref tx), (2, .int s0), (3, .ref wa), (4, .int wo), (5, .ref cp), (6, .int (nI r.length)), (7, .int (nI (ar))), (8, .int (nI (q + 1)))] [] n (zl_h (zl_sA κ 54 (a)) ρ) 0 0) (hk : o = 4 ∨ o = 5 → v ≠ (if o = 4 then 1 else 0) → zq_At l G (zq_rm D 0 0) mX9_reckon (zq_QF G post 0 0) 30 [(0, .ref 53), (1, .ref tx), (2, .int s0), (3, .ref wa), (4, .int wo), (5, .ref cp), (6, .int (nI r.length - 1)), (7, .int (nI (p))), (8, .int (nI (q + 1)))] [] n (zl_h (zl_sA κ 54 (a)) ρ) 0 0) : zq_At l G (zq_rm D 0 0) mX9_reckon (zq_QF G post 0 0) 75 [(0, .ref 53), (1, .ref tx), (2, .int s0), (3, .ref wa), (4, .int wo), (5, .ref cp), (6, .int (nI r.length)), (7, .int (nI (p))), (8, .int (nI (q))), (9, .int (nI o)), (10, .int (nI ar))] [] n (zl_h (zl_sA κ 54 (a)) ρ) 0 0 := by
  refine at_iload dX9_reckon_75 rfl ?_
  refine at_iconst dX9_reckon_77 (v := nI 1) (by decide) ?_
  refine at_eqN (tgt := 87) dX9_reckon_78 (by decide) (by omega) (by omega) (fun c78 => ?_) (fun c78 => ?_)
  · omega
  · refine at_iload dX9_reckon_81 rfl ?_
    refine at_iconst dX9_reckon_83 (v := nI 2) (by decide) ?_
    refine at_neN (tgt := 141) dX9_reckon_84 (by decide) (by omega) (by omega) (fun c84 => ?_) (fun c84 => ?_)
    · refine at_iload dX9_reckon_141 rfl ?_
      refine at_if_geN (tgt := 149) dX9_reckon_143 (by decide) (by omega) (fun c143 => ?_) (fun c143 => ?_)
      · refine at_iload dX9_reckon_149 rfl ?_
        refine at_if_neN (tgt := 162) dX9_reckon_151 (by decide) (by omega) (fun c151 => ?_) (fun c151 => ?_)
        · refine at_iload dX9_reckon_162 rfl ?_
          refine at_iconst dX9_reckon_164 (v := nI 3) (by decide) ?_
          refine at_neN (tgt := 187) dX9_reckon_165 (by decide) (by omega) (by omega) (fun c165 => ?_) (fun c165 => ?_)
          · refine at_iload dX9_reckon_187 rfl ?_
            refine at_iconst dX9_reckon_189 (v := nI 4) (by decide) ?_
            refine at_eqN (tgt := 199) dX9_reckon_190 (by decide) (by omega) (by omega) (fun c190 => ?_) (fun c190 => ?_)
            · have hj := hj (Or.inl c190)
              have hk := hk (Or.inl c190)
              rw [if_pos c190] at hj hk
              refine at_aload_n dX9_reckon_199 rfl ?_
              refine at_get dX9_reckon_200 fl_X9_9 (zl_o rfl) rfl ?_
              refine at_iload dX9_reckon_203 rfl ?_
              refine at_lald2 (a := 54) dX9_reckon_205 rfl rfl (by show _ < 32; omega) (by decide) ?_
              rw [zlA_s, htop]
              refine at_iload dX9_reckon_206 rfl ?_
              refine at_iconst dX9_reckon_208 (v := nI 4) (by decide) ?_
              refine at_neN (tgt := 216) dX9_reckon_209 (by decide) (by omega) (by omega) (fun c209 => ?_) (fun c209 => ?_)
              · omega
              · refine at_iconst dX9_reckon_212 (v := nI 1) (by decide) ?_
                refine at_goto (tgt := 217) dX9_reckon_213 (by decide) ?_
                refine at_icmp_ne (tgt := 227) dX9_reckon_217 (by decide) (fun c217 => ?_) (fun c217 => ?_)
                · have hn := hk c217
                  refine at_iinc dX9_reckon_227 rfl rfl (by decide) ?_
                  refine at_goto (tgt := 288) dX9_reckon_230 (by decide) ?_
                  rw [show nI r.length + Int32.ofInt (-1) = nI r.length - 1 from (by rw [Int32.sub_eq_add_neg]; rfl)]
                  exact zc_rk_back (t := 0) hn [(9, .int (nI o)), (10, .int (nI ar))] rfl
                · have hn := hj c217
                  refine at_iload dX9_reckon_220 rfl ?_
                  refine at_istore dX9_reckon_222 (by decide) ?_
                  refine at_goto (tgt := 288) dX9_reckon_224 (by decide) ?_
                  exact zc_rk_back (t := 0) hn [(9, .int (nI o)), (10, .int (nI ar))] rfl
            · refine at_iload dX9_reckon_193 rfl ?_
              refine at_iconst dX9_reckon_195 (v := nI 5) (by decide) ?_
              refine at_neN (tgt := 233) dX9_reckon_196 (by decide) (by omega) (by omega) (fun c196 => ?_) (fun c196 => ?_)
              · omega
              · have hj := hj (Or.inr c196)
                have hk := hk (Or.inr c196)
                rw [if_neg c190] at hj hk
                refine at_aload_n dX9_reckon_199 rfl ?_
                refine at_get dX9_reckon_200 fl_X9_9 (zl_o rfl) rfl ?_
                refine at_iload dX9_reckon_203 rfl ?_
                refine at_lald2 (a := 54) dX9_reckon_205 rfl rfl (by show _ < 32; omega) (by decide) ?_
                rw [zlA_s, htop]
                refine at_iload dX9_reckon_206 rfl ?_
                refine at_iconst dX9_reckon_208 (v := nI 4) (by decide) ?_
                refine at_neN (tgt := 216) dX9_reckon_209 (by decide) (by omega) (by omega) (fun c209 => ?_) (fun c209 => ?_)
                · refine at_iconst dX9_reckon_216 (v := nI 0) (by decide) ?_
                  refine at_icmp_ne (tgt := 227) dX9_reckon_217 (by decide) (fun c217 => ?_) (fun c217 => ?_)
                  · have hn := hk c217
                    refine at_iinc dX9_reckon_227 rfl rfl (by decide) ?_
                    refine at_goto (tgt := 288) dX9_reckon_230 (by decide) ?_
                    rw [show nI r.length + Int32.ofInt (-1) = nI r.length - 1 from (by rw [Int32.sub_eq_add_neg]; rfl)]
                    exact zc_rk_back (t := 0) hn [(9, .int (nI o)), (10, .int (nI ar))] rfl
                  · have hn := hj c217
                    refine at_iload dX9_reckon_220 rfl ?_
                    refine at_istore dX9_reckon_222 (by decide) ?_
                    refine at_goto (tgt := 288) dX9_reckon_224 (by decide) ?_
                    exact zc_rk_back (t := 0) hn [(9, .int (nI o)), (10, .int (nI ar))] rfl
                · omega
          · have hn := h3 c165
            refine at_aload_n dX9_reckon_168 rfl ?_
            refine at_get dX9_reckon_169 fl_X9_9 (zl_o rfl) rfl ?_
            refine at_iload dX9_reckon_172 rfl ?_
            refine at_iconst dX9_reckon_174 (v := nI 1) (by decide) ?_
            refine at_aload_n dX9_reckon_175 rfl ?_
            refine at_get dX9_reckon_176 fl_X9_9 (zl_o rfl) rfl ?_
            refine at_iload dX9_reckon_179 rfl ?_
            refine at_lald2 (a := 54) dX9_reckon_181 rfl rfl (by show _ < 32; omega) (by decide) ?_
            rw [zlA_s, htop]
            refine at_isub dX9_reckon_182 ?_
            refine at_last2 (a := 54) dX9_reckon_183 rfl rfl (by show _ < 32; omega) (by decide) ?_
            rw [zlA_a]
            refine at_goto (tgt := 288) dX9_reckon_184 (by decide) ?_
            exact zc_rk_back (t := 0) hn [(9, .int (nI o)), (10, .int (nI ar))] rfl
        · have hp := h0 c151
          refine at_aload_n dX9_reckon_154 rfl ?_
          refine at_get dX9_reckon_155 fl_X9_9 (zl_o rfl) rfl ?_
          refine at_iload dX9_reckon_158 rfl ?_
          refine at_lald2 (a := 54) dX9_reckon_160 rfl rfl (by show _ < 32; omega) (by decide) ?_
          rw [zlA_s, htop]
          refine at_iret dX9_reckon_161 rfl (by omega) (by omega) ?_
          exact hp
      · exact c143.elim
    · omega
theorem zc_rk_two0 {tx wa cp p q o ar : Nat} {s0 wo : Int32} {a : Nat → Int32} (ho : 6 ≤ o) (ho2 : o < 14) (hp : post (some (.int zBrk)) n (zl_h (zl_sA κ 54 a) ρ)) : zq_At l G (zq_rm D 0 0) mX9_reckon (zq_QF G post 0 0) 75 [(0, .ref 53), (1, .ref tx), (2, .int s0), (3, .ref wa), (4, .int wo), (5, .ref cp), (6, .int (nI 0)), (7, .int (nI (p))), (8, .int (nI (q))), (9, .int (nI o)), (10, .int (nI ar))] [] n (zl_h (zl_sA κ 54 (a)) ρ) 0 0 := by
  refine at_iload dX9_reckon_75 rfl ?_
  refine at_iconst dX9_reckon_77 (v := nI 1) (by decide) ?_
  refine at_eqN (tgt := 87) dX9_reckon_78 (by decide) (by omega) (by omega) (fun c78 => ?_) (fun c78 => ?_)
  · omega
  · refine at_iload dX9_reckon_81 rfl ?_
    refine at_iconst dX9_reckon_83 (v := nI 2) (by decide) ?_
    refine at_neN (tgt := 141) dX9_reckon_84 (by decide) (by omega) (by omega) (fun c84 => ?_) (fun c84 => ?_)
    · refine at_iload dX9_reckon_141 rfl ?_
      refine at_if_geN (tgt := 149) dX9_reckon_143 (by decide) (by omega) (fun c143 => ?_) (fun c143 => ?_)
      · refine at_iload dX9_reckon_149 rfl ?_
        refine at_if_neN (tgt := 162) dX9_reckon_151 (by decide) (by omega) (fun c151 => ?_) (fun c151 => ?_)
        · refine at_iload dX9_reckon_162 rfl ?_
          refine at_iconst dX9_reckon_164 (v := nI 3) (by decide) ?_
          refine at_neN (tgt := 187) dX9_reckon_165 (by decide) (by omega) (by omega) (fun c165 => ?_) (fun c165 => ?_)
          · refine at_iload dX9_reckon_187 rfl ?_
            refine at_iconst dX9_reckon_189 (v := nI 4) (by decide) ?_
            refine at_eqN (tgt := 199) dX9_reckon_190 (by decide) (by omega) (by omega) (fun c190 => ?_) (fun c190 => ?_)
            · omega
            · refine at_iload dX9_reckon_193 rfl ?_
              refine at_iconst dX9_reckon_195 (v := nI 5) (by decide) ?_
              refine at_neN (tgt := 233) dX9_reckon_196 (by decide) (by omega) (by omega) (fun c196 => ?_) (fun c196 => ?_)
              · refine at_iinc dX9_reckon_233 rfl rfl (by decide) ?_
                refine at_iload dX9_reckon_236 rfl ?_
                refine at_if_ge (tgt := 246) dX9_reckon_238 (by decide) (fun c238 => ?_) (fun c238 => ?_)
                · exact absurd c238 (by decide)
                · refine at_ldc dX9_reckon_241 (v := -2000000000) kc_X9_20 ?_
                  refine at_goto (tgt := 267) dX9_reckon_243 (by decide) ?_
                  refine at_istore dX9_reckon_267 (by decide) ?_
                  refine at_iload dX9_reckon_269 rfl ?_
                  refine at_ldc dX9_reckon_271 (v := -2000000000) kc_X9_20 ?_
                  refine at_icmp_ne (tgt := 279) dX9_reckon_273 (by decide) (fun c273 => ?_) (fun c273 => ?_)
                  · exact absurd rfl c273
                  · refine at_ldc dX9_reckon_276 (v := -2000000000) kc_X9_20 ?_
                    refine at_iret dX9_reckon_278 rfl (by omega) (by omega) ?_
                    exact hp
              · omega
          · omega
        · omega
      · exact c143.elim
    · omega
theorem zc_rk_two {tx wa cp p q o ar t : Nat} {s0 wo u v : Int32} {a : Nat → Int32} (hD : 1 ≤ D) (ho : 6 ≤ o) (ho2 : o < 14) (hL : t < 31) (ht1 : a (t + 1) = v) (ht2 : a t = u) (hp : zo2 o u v = zBrk → post (some (.int zBrk)) n (zl_h (zl_sA κ 54 a) ρ)) (hn : zo2 o u v ≠ zBrk → zq_At l G (zq_rm D 0 0) mX9_reckon (zq_QF G post 0 0) 30 [(0, .ref 53), (1, .ref tx), (2, .int s0), (3, .ref wa), (4, .int wo), (5, .ref cp), (6, .int (nI t)), (7, .int (nI (p))), (8, .int (nI (q + 1)))] [] n (zl_h (zl_sA κ 54 (upd a t (zo2 o u v))) ρ) 0 0) : zq_At l G (zq_rm D 0 0) mX9_reckon (zq_QF G post 0 0) 75 [(0, .ref 53), (1, .ref tx), (2, .int s0), (3, .ref wa), (4, .int wo), (5, .ref cp), (6, .int (nI (t + 1))), (7, .int (nI (p))), (8, .int (nI (q))), (9, .int (nI o)), (10, .int (nI ar))] [] n (zl_h (zl_sA κ 54 (a)) ρ) 0 0 := by
  have dec : nI (t + 1) + Int32.ofInt (-1) = nI t := by rw [← nI_pred t, Int32.sub_eq_add_neg]; rfl
  refine at_iload dX9_reckon_75 rfl ?_
  refine at_iconst dX9_reckon_77 (v := nI 1) (by decide) ?_
  refine at_eqN (tgt := 87) dX9_reckon_78 (by decide) (by omega) (by omega) (fun c78 => ?_) (fun c78 => ?_)
  · omega
  · refine at_iload dX9_reckon_81 rfl ?_
    refine at_iconst dX9_reckon_83 (v := nI 2) (by decide) ?_
    refine at_neN (tgt := 141) dX9_reckon_84 (by decide) (by omega) (by omega) (fun c84 => ?_) (fun c84 => ?_)
    · refine at_iload dX9_reckon_141 rfl ?_
      refine at_if_geN (tgt := 149) dX9_reckon_143 (by decide) (by omega) (fun c143 => ?_) (fun c143 => ?_)
      · refine at_iload dX9_reckon_149 rfl ?_
        refine at_if_neN (tgt := 162) dX9_reckon_151 (by decide) (by omega) (fun c151 => ?_) (fun c151 => ?_)
        · refine at_iload dX9_reckon_162 rfl ?_
          refine at_iconst dX9_reckon_164 (v := nI 3) (by decide) ?_
          refine at_neN (tgt := 187) dX9_reckon_165 (by decide) (by omega) (by omega) (fun c165 => ?_) (fun c165 => ?_)
          · refine at_iload dX9_reckon_187 rfl ?_
            refine at_iconst dX9_reckon_189 (v := nI 4) (by decide) ?_
            refine at_eqN (tgt := 199) dX9_reckon_190 (by decide) (by omega) (by omega) (fun c190 => ?_) (fun c190 => ?_)
            · omega
            · refine at_iload dX9_reckon_193 rfl ?_
              refine at_iconst dX9_reckon_195 (v := nI 5) (by decide) ?_
              refine at_neN (tgt := 233) dX9_reckon_196 (by decide) (by omega) (by omega) (fun c196 => ?_) (fun c196 => ?_)
              · refine at_iinc dX9_reckon_233 rfl rfl (by decide) ?_
                rw [dec]
                refine at_iload dX9_reckon_236 rfl ?_
                refine at_if_geN (tgt := 246) dX9_reckon_238 (by decide) (by omega) (fun c238 => ?_) (fun c238 => ?_)
                · refine at_iload dX9_reckon_246 rfl ?_
                  refine at_aload_n dX9_reckon_248 rfl ?_
                  refine at_get dX9_reckon_249 fl_X9_9 (zl_o rfl) rfl ?_
                  refine at_iload dX9_reckon_252 rfl ?_
                  refine at_lald2 (a := 54) dX9_reckon_254 rfl rfl (by show _ < 32; omega) (by decide) ?_
                  rw [zlA_s, ht2]
                  refine at_aload_n dX9_reckon_255 rfl ?_
                  refine at_get dX9_reckon_256 fl_X9_9 (zl_o rfl) rfl ?_
                  refine at_iload dX9_reckon_259 rfl ?_
                  refine at_iconst dX9_reckon_261 (v := nI 1) (by decide) ?_
                  refine at_iaddN dX9_reckon_262 ?_
                  refine at_lald2 (a := 54) dX9_reckon_263 rfl rfl (by show _ < 32; omega) (by decide) ?_
                  rw [zlA_s, ht1]
                  refine at_callS3 (d := D - 1) dX9_reckon_264 ms_X9_21 (Nat.le_of_ble_eq_true rfl) (zq_r0 (by omega) (by omega) (by omega)) ?_
                  refine zc_ofTwo ho (by omega) ?_
                  refine at_istore dX9_reckon_267 (by decide) ?_
                  refine at_iload dX9_reckon_269 rfl ?_
                  refine at_ldc dX9_reckon_271 (v := -2000000000) kc_X9_20 ?_
                  refine at_icmp_ne (tgt := 279) dX9_reckon_273 (by decide) (fun c273 => ?_) (fun c273 => ?_)
                  · have hn := hn c273
                    refine at_aload_n dX9_reckon_279 rfl ?_
                    refine at_get dX9_reckon_280 fl_X9_9 (zl_o rfl) rfl ?_
                    refine at_iload dX9_reckon_283 rfl ?_
                    refine at_iload dX9_reckon_285 rfl ?_
                    refine at_last2 (a := 54) dX9_reckon_287 rfl rfl (by show _ < 32; omega) (by decide) ?_
                    rw [zlA_a]
                    exact zc_rk_back (t := 0) hn [(9, .int (nI o)), (10, .int (nI ar)), (11, .int (zo2 o u v))] rfl
                  · have hp := hp c273
                    refine at_ldc dX9_reckon_276 (v := -2000000000) kc_X9_20 ?_
                    refine at_iret dX9_reckon_278 rfl (by omega) (by omega) ?_
                    exact hp
                · exact c238.elim
              · omega
          · omega
        · omega
      · exact c143.elim
    · omega
theorem zc_reckon_loop {tx wa cp N NW : Nat} {s0 wo : Int32} {cd : Nat → Nat × Nat} (hD : 1 ≤ D) (hcp : zCp ρ cp N cd) (ha : zl_isA wa = true) (hw : wa ≠ 54) (hl : zl_len wa = NW) (hNW : NW < 1000) (R : Int32) (hR : ∀ a, post (some (.int R)) n (zl_h (zl_sA κ 54 a) ρ)) :
    ∀ (f q p : Nat) (st : List Int32) (a : Nat → Int32), q + f = N → p < 2000 → zSt a st → zrs2 (zex cd N NW (κ.2.1 wa) f p st) = R → zq_At l G (zq_rm D 0 0) mX9_reckon (zq_QF G post 0 0) 30 [(0, .ref 53), (1, .ref tx), (2, .int s0), (3, .ref wa), (4, .int wo), (5, .ref cp), (6, .int (nI st.length - 1)), (7, .int (nI (p))), (8, .int (nI (q)))] [] n (zl_h (zl_sA κ 54 (a)) ρ) 0 0 := by
  obtain ⟨code, hc1, hc2, hc3, hc4⟩ := hcp
  have hcx : ∀ a, zl_h (zl_sA κ 54 a) ρ cp = .inl (0, N, .inl code) := fun a => (zl_hi _ ρ (Or.inr hc2)).trans hc1
  intro f
  induction f with
  | zero =>
    intro q p st a hq hpp hst he
    obtain rfl : q = N := by omega
    have he : zBrk = R := he
    have hp := hR a
    rw [← he] at hp
    refine at_iload dX9_reckon_30 rfl ?_
    refine at_aload dX9_reckon_32 rfl ?_
    refine at_alen dX9_reckon_34 (hcx a) (by decide) (v := nI q) rfl ?_
    refine at_geN (tgt := 294) dX9_reckon_35 (by decide) (by omega) (by omega) (fun c35 => ?_) (fun c35 => by omega)
    refine at_ldc dX9_reckon_294 (v := -2000000000) kc_X9_20 ?_
    refine at_iret dX9_reckon_296 rfl (by omega) (by omega) ?_
    exact hp
  | succ f ih =>
    intro q p st a hq hpp hst he
    have hL := hst.1
    unfold zex at he
    have back : ∀ (p' : Nat) (st' : List Int32) (a' : Nat → Int32), p' < 2000 → zSt a' st' → zrs2 (zex cd N NW (κ.2.1 wa) f p' st') = R → zq_At l G (zq_rm D 0 0) mX9_reckon (zq_QF G post 0 0) 30 [(0, .ref 53), (1, .ref tx), (2, .int s0), (3, .ref wa), (4, .int wo), (5, .ref cp), (6, .int (nI st'.length - 1)), (7, .int (nI (p'))), (8, .int (nI (q + 1)))] [] n (zl_h (zl_sA κ 54 (a')) ρ) 0 0 := fun p' st' a' h1 h2 h3 => ih (q + 1) p' st' a' (by omega) h1 h2 h3
    refine at_iload dX9_reckon_30 rfl ?_
    refine at_aload dX9_reckon_32 rfl ?_
    refine at_alen dX9_reckon_34 (hcx a) (by decide) (v := nI N) rfl ?_
    refine at_geN (tgt := 294) dX9_reckon_35 (by decide) (by omega) (by omega) (fun c35 => by omega) (fun c35 => ?_)
    refine at_iload dX9_reckon_38 rfl ?_
    refine at_if_ltN (tgt := 294) dX9_reckon_40 (by decide) (by omega) (fun c40 => c40.elim) (fun c40 => ?_)
    refine at_iload dX9_reckon_43 rfl ?_
    refine at_aload dX9_reckon_45 rfl ?_
    refine at_alen dX9_reckon_47 (hcx a) (by decide) (v := nI N) rfl ?_
    refine at_geN (tgt := 294) dX9_reckon_48 (by decide) (by omega) (by omega) (fun c48 => ?_) (fun c48 => ?_)
    · rw [if_pos c48] at he
      have he : zBrk = R := he
      have hp := hR a
      rw [← he] at hp
      refine at_ldc dX9_reckon_294 (v := -2000000000) kc_X9_20 ?_
      refine at_iret dX9_reckon_296 rfl (by omega) (by omega) ?_
      exact hp
    rw [if_neg (by omega)] at he
    obtain ⟨k1, k2, k3⟩ := hc4 p c48
    obtain ⟨z1, z2⟩ := zbit10 (c := 1024 * (cd p).1 + (cd p).2) (by omega)
    rw [show (1024 * (cd p).1 + (cd p).2) / 1024 = (cd p).1 by omega] at z1
    rw [show (1024 * (cd p).1 + (cd p).2) % 1024 = (cd p).2 by omega] at z2
    refine at_aload dX9_reckon_51 rfl ?_
    refine at_iload dX9_reckon_53 rfl ?_
    refine at_ialdN dX9_reckon_55 (hcx a) (by omega) rfl c48 ?_
    refine at_bipush dX9_reckon_56 (v := nI 10) (by decide) ?_
    refine at_ishr dX9_reckon_58 ?_
    rw [k1, z1]
    refine at_istore dX9_reckon_59 (by decide) ?_
    refine at_aload dX9_reckon_61 rfl ?_
    refine at_iload dX9_reckon_63 rfl ?_
    refine at_ialdN dX9_reckon_65 (hcx a) (by omega) rfl c48 ?_
    refine at_sipush dX9_reckon_66 (v := nI 1023) (by decide) ?_
    refine at_iand dX9_reckon_69 ?_
    rw [k1, z2]
    refine at_istore dX9_reckon_70 (by decide) ?_
    refine at_iincN dX9_reckon_72 rfl (by decide) ?_
    clear k1 z1 z2
    generalize (cd p).1 = o at *
    generalize (cd p).2 = ar at *
    by_cases ho : o = 1 ∨ o = 2
    · rw [if_pos ho] at he
      refine zc_rk_push ha hw hl hNW ho k3 hL (fun e => ?_) (fun e => ?_)
      · rw [if_pos e] at he
        have he : zBrk = R := he
        rw [he]; exact hR a
      · rw [if_neg e] at he
        have := back (p + 1) _ _ (by omega) (zSt_push hst (by omega)) he
        rw [List.length_cons, nI_pred] at this
        exact this
    · rw [if_neg ho] at he
      cases st with
      | nil =>
        have he : zBrk = R := he
        exact zc_rk_nil (fun h => ho (Or.inl h)) (fun h => ho (Or.inr h)) k2 (by rw [he]; exact hR a)
      | cons v r =>
        dsimp only at he
        have htop := zSt_top hst
        rw [List.length_cons] at hL
        show zq_At l G (zq_rm D 0 0) mX9_reckon (zq_QF G post 0 0) 75 [(0, .ref 53), (1, .ref tx), (2, .int s0), (3, .ref wa), (4, .int wo), (5, .ref cp), (6, .int (nI (r.length + 1) - 1)), (7, .int (nI (p + 1))), (8, .int (nI (q))), (9, .int (nI o)), (10, .int (nI ar))] [] n (zl_h (zl_sA κ 54 (a)) ρ) 0 0
        rw [nI_pred]
        by_cases h0 : o = 0
        · rw [if_pos h0] at he
          have he : v = R := he
          exact zc_rk_one (Or.inl h0) k3 (by omega) htop (fun _ => by rw [he]; exact hR a) (fun h => by omega) (fun h => by omega) (fun h => by omega)
        · rw [if_neg h0] at he
          by_cases h3 : o = 3
          · rw [if_pos h3] at he
            refine zc_rk_one (Or.inr (Or.inl h3)) k3 (by omega) htop (fun h => absurd h h0) (fun _ => ?_) (fun h => by omega) (fun h => by omega)
            have := back (p + 1) _ _ (by omega) (zSt_set hst) he
            rw [List.length_cons, nI_pred] at this
            exact this
          · rw [if_neg h3] at he
            by_cases h45 : o = 4 ∨ o = 5
            · rw [if_pos h45] at he
              refine zc_rk_one (Or.inr (Or.inr h45)) k3 (by omega) htop (fun h => absurd h h0) (fun h => absurd h h3) (fun _ e => ?_) (fun _ e => ?_)
              · rw [if_pos e] at he
                have := back ar _ _ (by omega) hst he
                rw [List.length_cons, nI_pred] at this
                exact this
              · rw [if_neg e] at he
                exact back (p + 1) _ _ (by omega) (zSt_tail hst) he
            · rw [if_neg h45] at he
              cases r with
              | nil =>
                have he : zBrk = R := he
                exact zc_rk_two0 (by omega) k2 (by rw [he]; exact hR a)
              | cons u r' =>
                dsimp only at he
                rw [List.length_cons] at hL
                have ht1 : a (r'.length + 1) = v := htop
                have ht2 := zSt_top (zSt_tail hst)
                refine zc_rk_two hD (by omega) k2 (by omega) ht1 ht2 (fun e => ?_) (fun e => ?_)
                · rw [if_pos e] at he
                  have he : zBrk = R := he
                  rw [he]; exact hR a
                · rw [if_neg e] at he
                  have := back (p + 1) _ _ (by omega) (zSt_set (zSt_tail hst)) he
                  rw [List.length_cons, nI_pred] at this
                  exact this
end ZC11

