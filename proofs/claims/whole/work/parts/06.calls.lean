/-! ===== statics, calls, returns ===== -/
def zq_sn (k : Nat) : String × String × String := match k with
  | 1 => ("LetterQuay", "TENS", "[I")
  | 2 => ("LetterQuay", "HIGHEST_TERMS", "[I")
  | 3 => ("LetterQuay$Alphabets", "ORDERS_OF_REST", "[I")
  | _ => ("LetterQuay$Mender", "SPANS", "[I")
theorem zq_old_Z {G : zq_G} {s : State} {H : Heap} (h : zq_old G s H) {k : Nat} (h1 : 1 ≤ k) (h4 : k ≤ 4) : va_Z (zq_sn k).1 (zq_sn k).2.1 (zq_sn k).2.2 (.ref (G.2.2.1 k)) (zq_A G) s H := by
  match k, h1, h4 with
  | 1, _, _ => exact h.1.1
  | 2, _, _ => exact h.2.1.1
  | 3, _, _ => exact h.2.2.1.1
  | 4, _, _ => exact h.2.2.2.1.1
theorem zq_old_T {G : zq_G} {s : State} {H : Heap} (h : zq_old G s H) {k N : Nat} {g : Nat → Int32} (hk : zq_o8 k = .inl (7, N, .inl g)) : va_T .int (G.2.2.1 k) N (fun j => .int (g j)) (zq_A G) s H := by
  match k, hk with
  | 0, hk => cases hk
  | 1, hk => cases hk; exact h.1.2
  | 2, hk => cases hk; exact h.2.1.2
  | 3, hk => cases hk; exact h.2.2.1.2
  | 4, hk => cases hk; exact h.2.2.2.1.2
  | n + 5, hk => cases hk
/-- a static is linked, in its own class or by a nest mate -/
def zq_SL (own : String) (idx k : Nat) : Prop := (1 ≤ k ∧ k ≤ 4) ∧ (Cond.fieldLink own idx (zq_sn k).1 (zq_sn k).2.1 (zq_sn k).2.2 ∈ zq_ws ∨ (own, idx, (zq_sn k).1, (zq_sn k).2.1, (zq_sn k).2.2) ∈ zq_fn)
/-- of a called method: its class is initialised, it's an ordinary one, it has na parameters -/
def zq_MI (y : MethodName) (na : Nat) : Prop := Cond.initialized y.cls ∈ zq_ws ∧ (y.cls ≠ "java/lang/invoke/MethodHandle" ∧ y.cls ≠ "java/lang/invoke/VarHandle") ∧ (parseMethodDescriptor y.desc).map (fun d => d.parameters.length) = some na
def zq_MV (own : String) (idx ci : Nat) (y : MethodName) (na : Nat) : Prop := Cond.methodLink own idx y ∈ zq_ws ∧ Cond.instanceMethod y ∈ zq_ws ∧ (∃ r : vw_C, zq_cls[ci]? = some r ∧ Cond.selects r.1 y y ∈ zq_ws) ∧ zq_MI y na
def zq_MS (own : String) (idx : Nat) (y : MethodName) (na : Nat) : Prop := (Cond.methodLink own idx y ∈ zq_ws ∨ (own, idx, y) ∈ zq_mn) ∧ Cond.static y ∈ zq_ws ∧ zq_MI y na
def zq_MC (own : String) (idx : Nat) (y : MethodName) (na : Nat) : Prop := (Cond.methodLink own idx y ∈ zq_ws ∨ (own, idx, y) ∈ zq_mn) ∧ y.name = "<init>" ∧ Cond.instanceMethod y ∈ zq_ws ∧ zq_MI y na
theorem zq_MI.len {y : MethodName} {na : Nat} (h : zq_MI y na) : ∀ sig, parseMethodDescriptor y.desc = some sig → na = sig.parameters.length := by
  intro sig hs
  have h2 := h.2.2
  rw [hs] at h2
  exact (Option.some.inj h2).symm
theorem zq_pay {y : MethodName} {cc : ByteArray} {nL : Nat} {ret : Option FieldType} {args : Array Value} {s : State} (hts : ∀ w ∈ zq_ws, w.before args s = true) (hc : Cond.code y cc nL ret ∈ zq_ws) : ∀ w ∈ Cond.code y cc nL ret :: zq_ws, ∀ (a' : Array Value) (U : State), s.WarmedH U.vm → w.before a' U = true := by
  intro w hw a' U hW
  have hm : w ∈ zq_ws := by
    rcases List.mem_cons.mp hw with rfl | h
    · exact hc
    · exact h
  exact word_at hW (zq_ws_good w hm) (hts w hm)
theorem zq_blind {G : zq_G} {av : List Value} {n : Nat} {f : Nat → zq_E} : FrameBlind (va_Pc av (zq_In G n f)) := by
  intro a U g mk h
  obtain ⟨rfl, h1, h2, h3, h4, h5⟩ := h
  exact ⟨rfl, h1, h2, h3, va_K.moved (u := U) (U := U.calling g mk _) (Vm.Alike.refl U.vm) h4, h5.same rfl⟩
theorem zq_pre {G : zq_G} {s U : State} {H : Heap} {locs : List Loc} {n : Nat} {f : Nat → zq_E} (hK : va_K G.1 zq_cls (zq_tys G) s) (hO : zq_old G s s.heap) (hs : H.size = G.2.2.2 + n) (hok : zq_ok n f) (hP : va_P G.1 zq_cls (zq_W G n f) H) (hS : va_S (zq_A G) s.heap H locs) (hU : U.heap = H) (hW : s.WarmedH U.vm) : zq_In G n f U :=
  ⟨by rw [hU]; exact hs, hok, by rw [hU]; exact hP, va_K.moved hW.alike hK, by rw [hU]; exact (hO.kept (fun a h1 h2 => hS.2.1 a h1 h2)).warm hW⟩
section ZQ3
variable {l : Launch} {G : zq_G} {R : Room} {M : zq_M} {QF : List Frame → Array Value → State → State → Prop} {pc : Nat} {lv : List (Nat × Value)} {st : List Value} {n : Nat} {f : Nat → zq_E} {cells slots : Nat}
theorem at_gets {idx k : Nat} (hd : decode M.1 pc = .ok (.getstatic idx, 3)) (hL : zq_SL M.2.1 idx k) (kk : zq_At l G R M QF (pc + 3) lv (.ref k :: st) n f cells slots) : zq_At l G R M QF pc lv st n f cells slots := by
  intro p e s m args below meth c H locs ls C hz hK hO hs hok hP hS hl
  obtain ⟨⟨h1, h4⟩, hw⟩ := hL
  have hk := kk p e s m args below meth c H locs ls C hz hK hO hs hok hP hS hl
  rw [List.map_cons, show zq_v G (.ref k) = .ref (G.2.2.1 k) from congrArg Value.ref (zq_ad_o G (by omega))] at hk
  rcases hw with hw | hw
  · exact va_gets C.1 C.2.1 (zq_old_Z hO h1 h4) hS C.2.2.2.1 (C.2.2.2.2.1 _ hw) (fun _ h => h) hd hk
  · exact va_getsN C.1 C.2.1 (zq_old_Z hO h1 h4) hS C.2.2.2.1 (va_Nw.use rfl (hO.2.2.2.2.2.2.2.2.1 _ hw)) (fun _ h => h) hd hk
theorem at_tald {o N : Nat} {g : Nat → Int32} {i : Int32} (hd : decode M.1 pc = .ok (.iaload, 1)) (ho : zq_o8 o = .inl (7, N, .inl g)) (h8 : o < 8) (hin : vp_in i N) (kk : zq_At l G R M QF (pc + 1) lv (.int (g i.toNatClampNeg) :: st) n f cells slots) : zq_At l G R M QF pc lv (.int i :: .ref o :: st) n f cells slots := by
  intro p e s m args below meth c H locs ls C hz hK hO hs hok hP hS hl
  show W p l e R s m args below meth c H locs cells slots (QF below args s) (F0 m pc ls (.int i :: .ref (zq_ad G o) :: st.map (zq_v G)))
  rw [zq_ad_o G h8]
  exact va_ti C.1 C.2.1 (zq_old_T hO ho) hS hin rfl hd (kk p e s m args below meth c H locs ls C hz hK hO hs hok hP hS hl)
theorem at_tlen {o N : Nat} {g : Nat → Int32} {v : Int32} (hd : decode M.1 pc = .ok (.arraylength, 1)) (ho : zq_o8 o = .inl (7, N, .inl g)) (h8 : o < 8) (hv : Int32.ofNat N = v) (kk : zq_At l G R M QF (pc + 1) lv (.int v :: st) n f cells slots) : zq_At l G R M QF pc lv (.ref o :: st) n f cells slots := by
  intro p e s m args below meth c H locs ls C hz hK hO hs hok hP hS hl
  show W p l e R s m args below meth c H locs cells slots (QF below args s) (F0 m pc ls (.ref (zq_ad G o) :: st.map (zq_v G)))
  rw [zq_ad_o G h8]
  exact va_tlen C.1 C.2.1 (zq_old_T hO ho) hS hv hd (kk p e s m args below meth c H locs ls C hz hK hO hs hok hP hS hl)
/-- behind a call -/
theorem zq_back {p : Program} {e : Env} {s : State} {m : MethodId} {args : Array Value} {below : List Frame} {meth : Method} {c : Code} {H : Heap} {locs : List Loc} {Q : State → Prop} {ls : Array Slot} {st0 rest : List Value} {a : Array Value} {mc ms : Nat} {post : Option Value → Nat → (Nat → zq_E) → Prop}
    (hr : va_Run p l e R s m args below meth c H locs cells slots mc ms (F0 m pc ls st0) rest (zq_Q G post a) (zq_A G)) (hS : va_S (zq_A G) s.heap H locs)
    (kk : ∀ (r : Option Value) (n1 : Nat) (f1 : Nat → zq_E) (H1 : Heap) (locs1 : List Loc), post r n1 f1 → H1.size = G.2.2.2 + n1 → zq_ok n1 f1 → va_P G.1 zq_cls (zq_W G n1 f1) H1 → va_S (zq_A G) s.heap H1 locs1 → W p l e R s m args below meth c H1 locs1 (cells + mc) (slots + ms) Q (F0 m (pc + 3) ls ((r.map (zq_v G)).toList ++ rest))) : W p l e R s m args below meth c H locs cells slots Q (F0 m pc ls st0) := by
  intro T hT X
  obtain ⟨v, st₀, t, T', L, h0, X', hL, e1, e2, ⟨⟨r, n1, f1, hv, hp, hb, hok1, hP1⟩, hz, hk⟩, stp⟩ := hr T hT X
  have hv2 : v = r.map (zq_v G) := by
    cases hv
    rfl
  subst hv2
  rw [h0] at hz hk
  obtain ⟨t2, a1, b1⟩ := kk r n1 f1 T'.heap (locs ++ L) hp (by rw [e1]; exact hb) hok1 (by rw [e1]; exact hP1)
    ⟨Nat.le_trans hS.1 (by rw [e1]; exact hz), fun q h1 h2 => by rw [e1, hk q (Nat.lt_of_lt_of_le h1 hS.1) h2]; exact hS.2.1 q h1 h2, fun q hq => by
      rcases List.mem_append.mp hq with h | h
      · exact hS.2.2 q h
      · exact hL q h⟩ T' rfl X'
  exact ⟨t2, stp t2 a1, b1⟩
theorem zq_push (r : Option Value) : ((r.map (zq_v G)).toList ++ st.map (zq_v G)) = (r.toList ++ st).map (zq_v G) := by cases r <;> rfl
theorem zq_sum : ((st.map (zq_v G)).map fun v => v.category).sum = (st.map fun v => v.category).sum := by
  rw [List.map_map]
  congr 1
  apply List.map_congr_left
  intro v _
  exact zq_cat G v
theorem at_callV {idx o ci na d mc ms : Nat} {y : MethodName} {fs : List Value} (As : List Value) (hd : decode M.1 pc = .ok (.invokevirtual idx, 3)) (hL : zq_MV M.2.1 idx ci y na) (hna : As.length = na) (ho : f o = .inr (ci, fs)) (hcat : (st.map fun v => v.category).sum ≤ 8) (hR : d + 1 ≤ R.frames ∧ 60 * d + 59 ≤ R.locals ∧ cells + mc ≤ R.cells ∧ slots + ms ≤ R.slots)
    (hr : zq_Runs l G d mc ms y (.ref o :: As) n f (fun r n1 f1 => zq_At l G R M QF (pc + 3) lv (r.toList ++ st) n1 f1 (cells + mc) (slots + ms))) : zq_At l G R M QF pc lv (As.reverse ++ .ref o :: st) n f cells slots := by
  intro p e s m args below meth c H locs ls C hz hK hO hs hok hP hS hl
  obtain ⟨cc, nL, ret, hc, hnL, hM⟩ := hr
  obtain ⟨hl1, hl2, ⟨rr, hl3, hl4⟩, hl5⟩ := hL
  have hts := C.2.2.2.2.1
  obtain ⟨j, rfl, hj⟩ := zq_obj hok ho
  have he : (zq_W G n f)[j]? = some (G.2.2.2 + j, .inr (ci, fs.map (zq_v G))) := by rw [zq_W_get hj, ho]; rfl
  have hrun := va_runV (g := F0 m pc ls ((As.map (zq_v G)).reverse ++ .ref (G.2.2.2 + j) :: st.map (zq_v G))) (cells := cells) (slots := slots) (locs := locs) (below := below) (meth := meth) (e := e) (R := R) (C := rr.1) (index := idx) (As := As.map (zq_v G)) (rest := st.map (zq_v G)) (b := G.2.2.2 + j) (n := na) (bytes := cc) (maxL := nL) (ret := ret) ⟨C.1, C.2.1, C.2.2.1, C.2.2.2.1, hts⟩ hM ⟨⟨rfl, rfl, hR.1, by show 8 + (nL + 11) + 60 * d ≤ R.locals; omega, zq_pay hts hc, List.mem_cons_self, hts _ hc, hts _ hl5.1, hl5.2.1, hl5.len, hts _ hl1⟩, hts _ hl2, hts _ hl4⟩ ⟨zq_blind, va_recv hK hP hl3 he, fun U hU hW => ⟨by rw [List.map_cons, show zq_v G (.ref (j + 8)) = .ref (G.2.2.2 + j) from congrArg Value.ref (zq_ad_p G j)], zq_pre hK hO hs hok hP hS hU hW⟩⟩ rfl (by rw [List.length_map]; exact hna) hl.1 rfl (lv_room (by rw [zq_sum]; exact hcat)) hd ⟨hR.2.2.1, hR.2.2.2⟩
  have hst : (As.reverse ++ .ref (j + 8) :: st).map (zq_v G) = (As.map (zq_v G)).reverse ++ .ref (G.2.2.2 + j) :: st.map (zq_v G) := by
    rw [List.map_append, List.map_reverse, List.map_cons, show zq_v G (.ref (j + 8)) = .ref (G.2.2.2 + j) from congrArg Value.ref (zq_ad_p G j)]
  rw [hst]
  refine zq_back hrun hS fun r n1 f1 H1 locs1 hp hs1 hok1 hP1 hS1 => ?_
  rw [zq_push]
  exact hp p e s m args below meth c H1 locs1 ls C hz hK hO hs1 hok1 hP1 hS1 hl
theorem at_callS {idx na d mc ms : Nat} {y : MethodName} (As : List Value) (hd : decode M.1 pc = .ok (.invokestatic idx, 3)) (hL : zq_MS M.2.1 idx y na) (hna : As.length = na) (hcat : (st.map fun v => v.category).sum ≤ 8) (hR : d + 1 ≤ R.frames ∧ 60 * d + 59 ≤ R.locals ∧ cells + mc ≤ R.cells ∧ slots + ms ≤ R.slots)
    (hr : zq_Runs l G d mc ms y As n f (fun r n1 f1 => zq_At l G R M QF (pc + 3) lv (r.toList ++ st) n1 f1 (cells + mc) (slots + ms))) : zq_At l G R M QF pc lv (As.reverse ++ st) n f cells slots := by
  intro p e s m args below meth c H locs ls C hz hK hO hs hok hP hS hl
  obtain ⟨cc, nL, ret, hc, hnL, hM⟩ := hr
  obtain ⟨hl1, hl2, hl5⟩ := hL
  have hts := C.2.2.2.2.1
  have hrun : va_Run p l e R s m args below meth c H locs cells slots mc ms (F0 m pc ls ((As.map (zq_v G)).reverse ++ st.map (zq_v G))) (st.map (zq_v G)) (zq_Q G (fun r n1 f1 => zq_At l G R M QF (pc + 3) lv (r.toList ++ st) n1 f1 (cells + mc) (slots + ms)) (As.map (zq_v G)).toArray) (zq_A G) := by
    rcases hl1 with hl1 | hl1
    · exact va_runS (g := F0 m pc ls ((As.map (zq_v G)).reverse ++ st.map (zq_v G))) (index := idx) (As := As.map (zq_v G)) (rest := st.map (zq_v G)) (n := na) (bytes := cc) (maxL := nL) (ret := ret) ⟨C.1, C.2.1, C.2.2.1, C.2.2.2.1, hts⟩ hM ⟨⟨rfl, rfl, hR.1, by show 8 + (nL + 11) + 60 * d ≤ R.locals; omega, zq_pay hts hc, List.mem_cons_self, hts _ hc, hts _ hl5.1, hl5.2.1, hl5.len, hts _ hl1⟩, hts _ hl2⟩ ⟨zq_blind, fun U hU hW => ⟨rfl, zq_pre hK hO hs hok hP hS hU hW⟩⟩ rfl (by rw [List.length_map]; exact hna) hl.1 rfl (lv_room (by rw [zq_sum]; exact hcat)) hd ⟨hR.2.2.1, hR.2.2.2⟩
    · exact va_runSN (g := F0 m pc ls ((As.map (zq_v G)).reverse ++ st.map (zq_v G))) (host := "LetterQuay") (index := idx) (As := As.map (zq_v G)) (rest := st.map (zq_v G)) (n := na) (bytes := cc) (maxL := nL) (ret := ret) ⟨C.1, C.2.1, C.2.2.1, C.2.2.2.1, hts⟩ hM ⟨⟨⟨rfl, rfl, hR.1, by show 8 + (nL + 11) + 60 * d ≤ R.locals; omega, zq_pay hts hc, List.mem_cons_self⟩, hts _ hc, hts _ hl5.1, hl5.2.1, hl5.len, va_Nw.use rfl (hO.2.2.2.2.2.2.2.1 _ hl1)⟩, hts _ hl2, trivial⟩ ⟨zq_blind, fun U hU hW => ⟨rfl, zq_pre hK hO hs hok hP hS hU hW⟩⟩ rfl (by rw [List.length_map]; exact hna) hl.1 rfl (lv_room (by rw [zq_sum]; exact hcat)) hd ⟨hR.2.2.1, hR.2.2.2⟩
  rw [List.map_append, List.map_reverse]
  refine zq_back hrun hS fun r n1 f1 H1 locs1 hp hs1 hok1 hP1 hS1 => ?_
  rw [zq_push]
  exact hp p e s m args below meth c H1 locs1 ls C hz hK hO hs1 hok1 hP1 hS1 hl
theorem at_callC {idx o na d mc ms : Nat} {y : MethodName} (As : List Value) (hd : decode M.1 pc = .ok (.invokespecial idx, 3)) (hL : zq_MC M.2.1 idx y na) (hna : As.length = na) (hcat : (st.map fun v => v.category).sum ≤ 8) (hR : d + 1 ≤ R.frames ∧ 60 * d + 59 ≤ R.locals ∧ cells + mc ≤ R.cells ∧ slots + ms ≤ R.slots) (hret : ∀ cc nL ret, Cond.code y cc nL ret ∈ zq_ws → ret = none)
    (hr : zq_Runs l G d mc ms y (.ref o :: As) n f (fun r n1 f1 => zq_At l G R M QF (pc + 3) lv (r.toList ++ st) n1 f1 (cells + mc) (slots + ms))) : zq_At l G R M QF pc lv (As.reverse ++ .ref o :: st) n f cells slots := by
  intro p e s m args below meth c H locs ls C hz hK hO hs hok hP hS hl
  obtain ⟨cc, nL, ret, hc, hnL, hM⟩ := hr
  obtain rfl := hret cc nL ret hc
  obtain ⟨hl1, hl2, hl3, hl5⟩ := hL
  have hts := C.2.2.2.2.1
  have hrun : va_Run p l e R s m args below meth c H locs cells slots mc ms (F0 m pc ls ((As.map (zq_v G)).reverse ++ .ref (zq_ad G o) :: st.map (zq_v G))) (st.map (zq_v G)) (zq_Q G (fun r n1 f1 => zq_At l G R M QF (pc + 3) lv (r.toList ++ st) n1 f1 (cells + mc) (slots + ms)) (Value.ref (zq_ad G o) :: As.map (zq_v G)).toArray) (zq_A G) := by
    rcases hl1 with hl1 | hl1
    · exact va_runI (g := F0 m pc ls ((As.map (zq_v G)).reverse ++ .ref (zq_ad G o) :: st.map (zq_v G))) (index := idx) (As := As.map (zq_v G)) (rest := st.map (zq_v G)) (b := zq_ad G o) (n := na) (bytes := cc) (maxL := nL) ⟨C.1, C.2.1, C.2.2.1, C.2.2.2.1, hts⟩ hM ⟨⟨rfl, rfl, hR.1, by show 8 + (nL + 11) + 60 * d ≤ R.locals; omega, zq_pay hts hc, List.mem_cons_self, hts _ hc, hts _ hl5.1, hl5.2.1, hl5.len, hts _ hl1⟩, hl2, hts _ hl3⟩ ⟨zq_blind, fun U hU hW => ⟨rfl, zq_pre hK hO hs hok hP hS hU hW⟩⟩ rfl (by rw [List.length_map]; exact hna) hl.1 rfl (lv_room (by rw [zq_sum]; exact hcat)) hd ⟨hR.2.2.1, hR.2.2.2⟩
    · exact va_runIN (g := F0 m pc ls ((As.map (zq_v G)).reverse ++ .ref (zq_ad G o) :: st.map (zq_v G))) (host := "LetterQuay") (index := idx) (As := As.map (zq_v G)) (rest := st.map (zq_v G)) (b := zq_ad G o) (n := na) (bytes := cc) (maxL := nL) ⟨C.1, C.2.1, C.2.2.1, C.2.2.2.1, hts⟩ hM ⟨⟨⟨rfl, rfl, hR.1, by show 8 + (nL + 11) + 60 * d ≤ R.locals; omega, zq_pay hts hc, List.mem_cons_self⟩, hts _ hc, hts _ hl5.1, hl5.2.1, hl5.len, va_Nw.use rfl (hO.2.2.2.2.2.2.2.1 _ hl1)⟩, hl2, hts _ hl3⟩ ⟨zq_blind, fun U hU hW => ⟨rfl, zq_pre hK hO hs hok hP hS hU hW⟩⟩ rfl (by rw [List.length_map]; exact hna) hl.1 rfl (lv_room (by rw [zq_sum]; exact hcat)) hd ⟨hR.2.2.1, hR.2.2.2⟩
  have hst : (As.reverse ++ .ref o :: st).map (zq_v G) = (As.map (zq_v G)).reverse ++ .ref (zq_ad G o) :: st.map (zq_v G) := by
    rw [List.map_append, List.map_reverse, List.map_cons]; rfl
  rw [hst]
  refine zq_back hrun hS fun r n1 f1 H1 locs1 hp hs1 hok1 hP1 hS1 => ?_
  rw [zq_push]
  exact hp p e s m args below meth c H1 locs1 ls C hz hK hO hs1 hok1 hP1 hS1 hl
theorem at_objInit {idx o : Nat} (hd : decode M.1 pc = .ok (.invokespecial idx, 3)) (h1 : Cond.methodLink M.2.1 idx Lib.objectInit ∈ zq_ws) (h2 : Cond.instanceMethod Lib.objectInit ∈ zq_ws) (h3 : Cond.code Lib.objectInit ⟨#[0xb1]⟩ 1 none ∈ zq_ws) (hcat : (st.map fun v => v.category).sum ≤ 8) (hR : 1 ≤ R.frames ∧ 20 ≤ R.locals)
    (kk : zq_At l G R M QF (pc + 3) lv st n f cells slots) : zq_At l G R M QF pc lv (.ref o :: st) n f cells slots := by
  intro p e s m args below meth c H locs ls C hz hK hO hs hok hP hS hl
  have hts := C.2.2.2.2.1
  refine W.objInit C.1 C.2.1 C.2.2.2.1 (hts _ h1) (hts _ h2) (hts _ h3) (g := F0 m pc ls (.ref (zq_ad G o) :: st.map (zq_v G))) rfl (hl.1.trans C.2.2.1.symm) rfl hd hR.1 ?_ (kk p e s m args below meth c H locs ls C hz hK hO hs hok hP hS hl)
  have := lv_room (m := m) (pc := pc) (ls := ls) (rest := .ref (zq_ad G o) :: st.map (zq_v G)) (st := st.map (zq_v G)) (by rw [zq_sum]; exact hcat)
  omega
end ZQ3
section ZQ4
variable {l : Launch} {G : zq_G} {R : Room} {M : zq_M} {post : Option Value → Nat → (Nat → zq_E) → Prop} {mc ms : Nat} {pc : Nat} {lv : List (Nat × Value)} {n : Nat} {f : Nat → zq_E} {cells slots : Nat}
theorem at_iret {x : Int32} (hd : decode M.1 pc = .ok (.ireturn, 1)) (hr : M.2.2.2.1 = some .int) (h1 : cells ≤ mc) (h2 : slots ≤ ms) (hp : post (some (.int x)) n f) : zq_At l G R M (zq_QF G post mc ms) pc lv [.int x] n f cells slots := by
  intro p e s m args below meth c H locs ls C hz hK hO hs hok hP hS hl
  refine W.widen h1 h2 ?_
  exact W.iret C.1 C.2.1 (C.2.2.2.2.2.1.trans hr) (fun t ht hW => ⟨⟨some (.int x), n, f, rfl, hp, by rw [ht]; exact hs, hok, by rw [ht]; exact hP⟩, hS.F ht⟩) hS.2.2 hd C.2.2.2.2.2.2.1
theorem at_zret {x : Int32} (hd : decode M.1 pc = .ok (.ireturn, 1)) (hr : M.2.2.2.1 = some .boolean) (h1 : cells ≤ mc) (h2 : slots ≤ ms) (hx : x = 0 ∨ x = 1) (hp : post (some (.int x)) n f) : zq_At l G R M (zq_QF G post mc ms) pc lv [.int x] n f cells slots := by
  intro p e s m args below meth c H locs ls C hz hK hO hs hok hP hS hl
  refine W.widen h1 h2 ?_
  exact W.zret C.1 C.2.1 (C.2.2.2.2.2.1.trans hr) (by rcases hx with rfl | rfl <;> rfl) (fun t ht hW => ⟨⟨some (.int x), n, f, rfl, hp, by rw [ht]; exact hs, hok, by rw [ht]; exact hP⟩, hS.F ht⟩) hS.2.2 hd C.2.2.2.2.2.2.1
theorem at_lret {x : Int64} (hd : decode M.1 pc = .ok (.lreturn, 1)) (hr : M.2.2.2.1 = some .long) (h1 : cells ≤ mc) (h2 : slots ≤ ms) (hp : post (some (.long x)) n f) : zq_At l G R M (zq_QF G post mc ms) pc lv [.long x] n f cells slots := by
  intro p e s m args below meth c H locs ls C hz hK hO hs hok hP hS hl
  refine W.widen h1 h2 ?_
  exact W.lret C.1 C.2.1 (C.2.2.2.2.2.1.trans hr) (fun t ht hW => ⟨⟨some (.long x), n, f, rfl, hp, by rw [ht]; exact hs, hok, by rw [ht]; exact hP⟩, hS.F ht⟩) hS.2.2 hd C.2.2.2.2.2.2.1
theorem at_vret (hd : decode M.1 pc = .ok (.return_, 1)) (hr : M.2.2.2.1 = none) (h1 : cells ≤ mc) (h2 : slots ≤ ms) (hp : post none n f) : zq_At l G R M (zq_QF G post mc ms) pc lv [] n f cells slots := by
  intro p e s m args below meth c H locs ls C hz hK hO hs hok hP hS hl
  refine W.widen h1 h2 ?_
  exact W.vret C.1 C.2.1 (C.2.2.2.2.2.1.trans hr) (fun t ht hW => ⟨⟨none, n, f, rfl, hp, by rw [ht]; exact hs, hok, by rw [ht]; exact hP⟩, hS.F ht⟩) hS.2.2 hd C.2.2.2.2.2.2.1
theorem at_aret {r : Option Nat} {rt : FieldType} (hd : decode M.1 pc = .ok (.areturn, 1)) (hr : M.2.2.2.1 = some rt) (hrt : (∃ x, rt = .object x) ∨ ∃ x, rt = .array x) (h1 : cells ≤ mc) (h2 : slots ≤ ms) (hp : post (some (va_rf r)) n f) : zq_At l G R M (zq_QF G post mc ms) pc lv [va_rf r] n f cells slots := by
  intro p e s m args below meth c H locs ls C hz hK hO hs hok hP hS hl
  refine W.widen h1 h2 ?_
  exact W.aret C.1 C.2.1 (C.2.2.2.2.2.1.trans hr) hrt (by cases r with
    | none => exact Or.inl rfl
    | some a => exact Or.inr ⟨_, rfl⟩) (fun t ht hW => ⟨⟨some (va_rf r), n, f, rfl, hp, by rw [ht]; exact hs, hok, by rw [ht]; exact hP⟩, hS.F ht⟩) hS.2.2 hd C.2.2.2.2.2.2.1
end ZQ4
