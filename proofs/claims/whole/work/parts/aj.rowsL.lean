/-! THE CLAIM OUT OF ONE WALK OF THE LAW'S BODY. Your part is whole_start (and what it stands on); all else here is the same for every law, but numbers. -/
def R_law : String := "LetterQuayLaw"
def lw_P (b : Addr) (xs : List Int32) (args : Array Value) (s : State) : Prop := args = #[.ref b] ∧ s.IntsAt b xs ∧ xs.length ≤ 3072 ∧ (Jvm.Cond.and given_1 narrow_1).before args s = true
def lw_Q (_ : Array Value) (s : State) (o : Outcome) (t : State) : Prop := o = .returned (some (.int 1)) ∧ Framed s o t [] 600000 7302250
def lw_Z (below : List Frame) (a : Array Value) (s : State) : State → Prop := fun t => ∃ o, t.status = .running ∧ Ended t below o ∧ lw_Q a s o t
/-- the law's own end, with 1 on the stack, nothing written that was there before, its room as the claim has it -/
theorem lw_ret {p : Program} {l : Launch} {e : Env} {s : State} {m : MethodId} {below : List Frame} {meth : Method} {c : Code} {b : Nat} (hx : p.tables.exec = Jvm.exec) (hb : c.code = code) (hr : meth.sig.returnType = ret) (hlocks : meth.locks = false) {pc : Nat} {H : Heap} {ls : Array Slot} (hdg : decode code pc = .ok (.ireturn, 1)) : W p l e room_1 s m #[Value.ref b] below meth c H [] 600000 7302250 (lw_Z below #[Value.ref b] s) (F0 m pc ls [.int 1]) := by
  intro T hT X
  obtain ⟨fs, hret, hrun, hended, hW, hframe⟩ := X.leave (v := some (.int 1)) (hlocks := hlocks) (fun h => by rw [hr] at h; cases h)
  have hmeth' : T.vm.method? m = some meth := X.method'
  refine ⟨T.setFrames fs, ?_, .returned (some (.int 1)), hrun, hended, rfl, ⟨_, rfl⟩, hW, hframe⟩
  jvm_step X.here [X.here.top, hx, hb, hdg, hmeth', hr, ret, narrow_b1]
  (try refine ⟨rfl, ?_⟩); (try refine ⟨rfl, ?_⟩)
  first | (intro acts; rw [hret _ acts rfl rfl rfl]) | rw [hret _ _ rfl rfl rfl]
  exact Steps.refl _
/-- what holds at the law's entry: the machine, the code, the tables' words (any of lw_tbl by 'hts w (by decide +kernel)'), the script of L ints xs at the cell b, what the Statement gives of the start (any of its parts by flat_of_before) -/
def lw_At (p : Program) (s : State) (m : MethodId) (meth : Method) (c : Code) (b L : Nat) (xs : Nat → Int32) : Prop :=
  p.tables.exec = Jvm.exec ∧ c.code = code ∧ meth.sig.returnType = ret ∧ c.maxLocals = 4 ∧ s.vm.findClass R_law = some m.cls ∧ (∀ w ∈ lw_tbl, w.before #[Value.ref b] s = true) ∧ va_X b L xs s s.heap ∧ b < s.heap.size ∧ meth.locks = false ∧ (Jvm.Cond.and given_1 narrow_1).before #[Value.ref b] s = true
/-! ===== rows of the law's own walk (written by mklaw.py) ===== -/
abbrev mL (nm : String) : zq_M := (cL_law, RL, nm, ret, 4)
def zLSt (G : zq_G) (L : Nat) (xs : Nat → Int32) (args : Array Value) (s : State) : Prop := va_X (G.2.2.1 0) L xs s s.heap ∧ G.2.2.1 0 < s.heap.size ∧ args = #[Value.ref (G.2.2.1 0)] ∧ G.2.2.2 = s.heap.size
/-- the law's end, where the start is the claim's -/
def zLQ (G : zq_G) (L : Nat) (xs : Nat → Int32) : List Frame → Array Value → State → State → Prop := fun below args s t => zLSt G L xs args s → lw_Z below args s t
section ZK39
variable {l : Launch} {G : zq_G} {R : Room} {M : zq_M} {QF : List Frame → Array Value → State → State → Prop} {pc : Nat} {lv : List (Nat × Value)} {st : List Value} {n : Nat} {f : Nat → zq_E} {cells slots L : Nat} {xs : Nat → Int32}
theorem at_sldN {i : Int32} {j : Nat} (hd : decode M.1 pc = .ok (.iaload, 1)) (hi : i = nI j) (hj : j < L) (hL : L < 2147483648) (kk : zq_At l G R M (zLQ G L xs) (pc + 1) lv (.int (xs j) :: st) n f cells slots) : zq_At l G R M (zLQ G L xs) pc lv (.int i :: .ref 0 :: st) n f cells slots := by
  intro p e s m args below meth c H locs ls C hz hK hO hs hok hP hS hl
  obtain ⟨e1, e2⟩ := zn_in hi hj hL
  by_cases hc : zLSt G L xs args s
  · show W p l e R s m args below meth c H locs cells slots (zLQ G L xs below args s) (F0 m pc ls (.int i :: .ref (zq_ad G 0) :: st.map (zq_v G)))
    rw [zq_ad_o G (by decide)]
    refine va_sld C.1 C.2.1 hc.1 hc.2.1 (Nat.not_le.mpr (by rw [hc.2.2.2]; exact hc.2.1)) hS e1 hd ?_
    rw [e2]
    exact kk p e s m args below meth c H locs ls C hz hK hO hs hok hP hS hl
  · intro T hT X
    exact ⟨_, Steps.refl _, fun h => absurd h hc⟩
theorem at_slen (hd : decode M.1 pc = .ok (.arraylength, 1)) (kk : zq_At l G R M (zLQ G L xs) (pc + 1) lv (.int (nI L) :: st) n f cells slots) : zq_At l G R M (zLQ G L xs) pc lv (.ref 0 :: st) n f cells slots := by
  intro p e s m args below meth c H locs ls C hz hK hO hs hok hP hS hl
  by_cases hc : zLSt G L xs args s
  · show W p l e R s m args below meth c H locs cells slots (zLQ G L xs below args s) (F0 m pc ls (.ref (zq_ad G 0) :: st.map (zq_v G)))
    rw [zq_ad_o G (by decide)]
    exact va_slen C.1 C.2.1 hc.1 hc.2.1 (Nat.not_le.mpr (by rw [hc.2.2.2]; exact hc.2.1)) hS hd (kk p e s m args below meth c H locs ls C hz hK hO hs hok hP hS hl)
  · intro T hT X
    exact ⟨_, Steps.refl _, fun h => absurd h hc⟩
theorem at_tabOut {dflt lo hi : Int} {offs : Array Int} {len : Nat} {x : Int32} {tgt : Nat} (hd : decode M.1 pc = .ok (.tableswitch dflt lo hi offs, len)) (h : x.toInt < lo ∨ hi < x.toInt) (ht : (pc : Int) + dflt = (tgt : Int)) (kk : zq_At l G R M QF tgt lv st n f cells slots) : zq_At l G R M QF pc lv (.int x :: st) n f cells slots := by
  intro p e s m args below meth c H locs ls C hz hK hO hs hok hP hS hl
  exact lv_tableOut C.1 C.2.1 hd h ht (kk p e s m args below meth c H locs ls C hz hK hO hs hok hP hS hl)
theorem at_tabIn {dflt lo hi : Int} {offs : Array Int} {len : Nat} {x : Int32} {off : Int} {tgt : Nat} (hd : decode M.1 pc = .ok (.tableswitch dflt lo hi offs, len)) (h1 : ¬ x.toInt < lo) (h2 : ¬ hi < x.toInt) (ho : offs[(x.toInt - lo).toNat]? = some off) (ht : (pc : Int) + off = (tgt : Int)) (kk : zq_At l G R M QF tgt lv st n f cells slots) : zq_At l G R M QF pc lv (.int x :: st) n f cells slots := by
  intro p e s m args below meth c H locs ls C hz hK hO hs hok hP hS hl
  exact lv_tableIn C.1 C.2.1 hd h1 h2 ho ht (kk p e s m args below meth c H locs ls C hz hK hO hs hok hP hS hl)
theorem at_lret1 {nm : String} (hd : decode cL_law pc = .ok (.ireturn, 1)) (h1 : cells ≤ 600000) (h2 : slots ≤ 7302250) : zq_At l G room_1 (mL nm) (zLQ G L xs) pc lv [.int 1] n f cells slots := by
  intro p e s m args below meth c H locs ls C hz hK hO hs hok hP hS hl
  by_cases hc : zLSt G L xs args s
  · obtain ⟨-, -, ha, hG⟩ := id hc
    subst ha
    refine W.widen h1 h2 (va_forget (fun q hq => ?_) ?_)
    · rw [← hG]; exact hS.2.2 q hq
    · intro T hT X
      obtain ⟨t, a1, b1⟩ := lw_ret C.1 C.2.1 C.2.2.2.2.2.1 C.2.2.2.2.2.2.1 hd T hT X
      exact ⟨t, a1, fun _ => b1⟩
  · intro T hT X
    exact ⟨_, Steps.refl _, fun h => absurd h hc⟩
theorem zVk_i {v : Value} (h : zVk v = 1) : ∃ x, v = .int x := by
  cases v with
  | int x => exact ⟨x, rfl⟩
  | _ => cases h
theorem zVk_l {v : Value} (h : zVk v = 2) : ∃ x, v = .long x := by
  cases v with
  | long x => exact ⟨x, rfl⟩
  | _ => cases h
theorem zand63 (a : Int32) : ∃ u, u < 64 ∧ a &&& nI 63 = nI u := by
  refine ⟨(a.toBitVec &&& 63#32).toNat, ?_, ?_⟩
  · rw [BitVec.toNat_and]
    exact Nat.lt_of_le_of_lt Nat.and_le_right (by decide)
  · apply Int32.toBitVec_inj.mp
    rw [Int32.toBitVec_and]
    show a.toBitVec &&& 63#32 = BitVec.ofNat 32 _
    rw [BitVec.ofNat_toNat, BitVec.setWidth_eq]
theorem lg_cmp_0 (x : Int64) : lg_cmp x x = 0 := by
  unfold lg_cmp
  simp
end ZK39

