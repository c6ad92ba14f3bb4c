/-! ===== rows over the pool: fields, arrays, new cells, statics ===== -/
theorem zq_ad_p (G : zq_G) (j : Nat) : zq_ad G (j + 8) = G.2.2.2 + j := by unfold zq_ad; rw [if_neg (by omega), Nat.add_sub_cancel]
theorem zq_ad_o (G : zq_G) {k : Nat} (h : k < 8) : zq_ad G k = G.2.2.1 k := by simp [zq_ad, h]
theorem zq_obj {n : Nat} {f : Nat → zq_E} {o ci : Nat} {fs : List Value} (h : zq_ok n f) (hf : f o = .inr (ci, fs)) : ∃ j, o = j + 8 ∧ j < n := by
  by_cases h8 : o < 8
  · rw [h.1 o h8] at hf
    match o, h8, hf with
    | 0, _, hf => cases hf
    | 1, _, hf => cases hf
    | 2, _, hf => cases hf
    | 3, _, hf => cases hf
    | 4, _, hf => cases hf
    | 5, _, hf => cases hf
    | 6, _, hf => cases hf
    | 7, _, hf => cases hf
  · by_cases hn : n + 8 ≤ o
    · rw [h.2 o hn] at hf
      cases hf
    · exact ⟨o - 8, by omega, by omega⟩
theorem zq_arr {n : Nat} {f : Nat → zq_E} {o t : Nat} {x : vp_A} (h : zq_ok n f) (hf : f o = .inl (t, x)) (ht : t < 7) : ∃ j, o = j + 8 ∧ j < n := by
  by_cases h8 : o < 8
  · rw [h.1 o h8] at hf
    match o, h8, hf with
    | 0, _, hf => cases hf; omega
    | 1, _, hf => cases hf; omega
    | 2, _, hf => cases hf; omega
    | 3, _, hf => cases hf; omega
    | 4, _, hf => cases hf; omega
    | 5, _, hf => cases hf; omega
    | 6, _, hf => cases hf; omega
    | 7, _, hf => cases hf; omega
  · by_cases hn : n + 8 ≤ o
    · rw [h.2 o hn] at hf
      cases hf
      omega
    · exact ⟨o - 8, by omega, by omega⟩
theorem zq_set {G : zq_G} {n : Nat} {f : Nat → zq_E} {H H1 : Heap} {j : Nat} {e : zq_E} (hP : va_P G.1 zq_cls (zq_W G n f) H) (hj : j < n) (he : va_at G.1 zq_cls (G.2.2.2 + j, zq_e G e) H1) (oq : ∀ q : Nat, q ≠ G.2.2.2 + j → H1[q]? = H[q]?) : va_P G.1 zq_cls (zq_W G n (va_up f (j + 8) e)) H1 := by
  rw [← zq_W_set]
  exact hP.set zq_W_D (zq_W_get hj) he oq
theorem zq_ok.up {n : Nat} {f : Nat → zq_E} {j : Nat} {e : zq_E} (h : zq_ok n f) (hj : j < n) : zq_ok n (va_up f (j + 8) e) :=
  ⟨fun k hk => by rw [va_up_ne _ _ (by omega)]; exact h.1 k hk, fun k hk => by rw [va_up_ne _ _ (by omega)]; exact h.2 k hk⟩
theorem zq_ok.push {n : Nat} {f : Nat → zq_E} {e : zq_E} (h : zq_ok n f) : zq_ok (n + 1) (va_up f (n + 8) e) :=
  ⟨fun k hk => by rw [va_up_ne _ _ (by omega)]; exact h.1 k hk, fun k hk => by rw [va_up_ne _ _ (by omega)]; exact h.2 k (by omega)⟩
theorem zq_new {G : zq_G} {n : Nat} {f : Nat → zq_E} {H H1 : Heap} {e : zq_E} (hP : va_P G.1 zq_cls (zq_W G n f) H) (he : va_at G.1 zq_cls (G.2.2.2 + n, zq_e G e) H1) (oq : ∀ q : Nat, q < H.size → H1[q]? = H[q]?) : va_P G.1 zq_cls (zq_W G (n + 1) (va_up f (n + 8) e)) H1 := by
  rw [← zq_W_push]
  refine (hP.kept (fun k x hx => oq x.1 (hP k x hx).lt)).app (fun k x hx => ?_)
  have hz : k < 1 := (List.getElem?_eq_some_iff.mp hx).1
  rw [show k = 0 by omega] at hx
  cases hx
  exact he
/-- a field is linked: entry idx of class own's pool names field k of class ci -/
def zq_FL (own : String) (idx ci k : Nat) : Prop := ∃ (C : String) (T : u_T) (N : Nat), zq_cls[ci]? = some (C, T, N) ∧ k < N ∧ Cond.fieldLink own idx (T k).1 (T k).2.1 (T k).2.2.1 ∈ zq_ws
/-- it may be written: it isn't final, or this is its class's constructor -/
def zq_PL (own nm : String) (idx ci k : Nat) : Prop := ∃ (C : String) (T : u_T) (N : Nat), zq_cls[ci]? = some (C, T, N) ∧ k < N ∧ Cond.fieldLink own idx (T k).1 (T k).2.1 (T k).2.2.1 ∈ zq_ws ∧ ((T k).2.2.2 = false ∨ ((T k).2.2.2 = true ∧ nm = "<init>" ∧ (T k).1 = own))
theorem zq_tail {G : zq_G} {n : Nat} {H H1 : Heap} (hs : H.size = G.2.2.2 + n) (z : H1.size = H.size) : H1.size = G.2.2.2 + n := z.trans hs
section ZQ2
variable {l : Launch} {G : zq_G} {R : Room} {M : zq_M} {QF : List Frame → Array Value → State → State → Prop} {pc : Nat} {lv : List (Nat × Value)} {st : List Value} {n : Nat} {f : Nat → zq_E} {cells slots : Nat}
theorem at_get {idx o ci k : Nat} {fs : List Value} {v : Value} (hd : decode M.1 pc = .ok (.getfield idx, 3)) (hL : zq_FL M.2.1 idx ci k) (hf : f o = .inr (ci, fs)) (hv : fs[k]? = some v) (kk : zq_At l G R M QF (pc + 3) lv (v :: st) n f cells slots) : zq_At l G R M QF pc lv (.ref o :: st) n f cells slots := by
  intro p e s m args below meth c H locs ls C hz hK hO hs hok hP hS hl
  obtain ⟨j, rfl, hj⟩ := zq_obj hok hf
  obtain ⟨D, T, N, hc, hk, hw⟩ := hL
  have he : (zq_W G n f)[j]? = some (G.2.2.2 + j, .inr (ci, fs.map (zq_v G))) := by rw [zq_W_get hj, hf]; rfl
  have hv2 : (fs.map (zq_v G))[k]? = some (zq_v G v) := by rw [List.getElem?_map, hv]; rfl
  show W p l e R s m args below meth c H locs cells slots (QF below args s) (F0 m pc ls (.ref (zq_ad G (j + 8)) :: st.map (zq_v G)))
  rw [zq_ad_p]
  exact va_get C.1 C.2.1 C.2.2.2.2.1 (zq_cl hc).1 C.2.2.2.1 hK hP j he hc k hk (C.2.2.2.2.1 _ hw) (fun _ h => h) hv2 hd (kk p e s m args below meth c H locs ls C hz hK hO hs hok hP hS hl)
theorem at_put {idx o ci k : Nat} {fs : List Value} {v : Value} (hd : decode M.1 pc = .ok (.putfield idx, 3)) (hL : zq_PL M.2.1 M.2.2.1 idx ci k) (hf : f o = .inr (ci, fs)) (hlen : k < fs.length) (hn : ∀ G : zq_G, narrow (zq_ty ci k) (zq_v G v) = zq_v G v) (hft : ∀ G : zq_G, fits (zq_ty ci k) (zq_v G v) = true)
    (kk : zq_At l G R M QF (pc + 3) lv st n (va_up f o (.inr (ci, fs.set k v))) cells slots) : zq_At l G R M QF pc lv (v :: .ref o :: st) n f cells slots := by
  intro p e s m args below meth c H locs ls C hz hK hO hs hok hP hS hl
  obtain ⟨j, rfl, hj⟩ := zq_obj hok hf
  obtain ⟨D, T, N, hc, hk, hw, hfin⟩ := hL
  obtain ⟨hin, hty, hnm⟩ := zq_cl hc
  have hts := C.2.2.2.2.1
  have he : (zq_W G n f)[j]? = some (G.2.2.2 + j, .inr (ci, fs.map (zq_v G))) := by rw [zq_W_get hj, hf]; rfl
  have hap := va_apart (own := M.2.1) hts hin (zq_ty ci) hty hnm hK hc
  obtain ⟨r, h1, cell, q1, q2, q3, q4⟩ := hP j _ he
  have hr : r = (D, T, N) := Option.some.inj (h1.symm.trans hc)
  subst hr
  obtain ⟨hSl, hfc, kC, hkC, hkind⟩ := hK.1 ci _ hc
  obtain ⟨cf, kf, fi, fd, hi, hsl⟩ := hSl k hk
  have hst := (u_facts hfc hkC (u_lays hts hin hk) hi).1
  have hlay := hts _ (hin _ (u_in_lay hk))
  have fin : ∀ H1 : Heap, H1[G.2.2.2 + j]? = some (cell.setSlot fd.slot (zq_v G v)) → H1.size = H.size → (∀ q, q ≠ G.2.2.2 + j → H1[q]? = H[q]?) → W p l e R s m args below meth c H1 (locs ++ [⟨G.2.2.2 + j, fd.slot⟩]) cells slots (QF below args s) (F0 m (pc + 3) ls (st.map (zq_v G))) := by
    intro H1 e1 e2 e3
    rw [hsl] at e1 ⊢
    refine kk p e s m args below meth c H1 _ ls C hz hK hO (zq_tail hs e2) (hok.up hj) (zq_set hP hj ?_ e3) (hS.put e2 e3 (Nat.le_add_right _ _)) hl
    refine ⟨_, hc, t_OB.to (V := updV (vp_V (fs.map (zq_v G))) k (zq_v G v)) ⟨_, e1, q2, q3, t_set q4 hap hk (zq_v G v)⟩ (fun i _ => ?_)⟩
    rw [vp_updV_set (by rw [List.length_map]; exact hlen), List.map_set]
  show W p l e R s m args below meth c H locs cells slots (QF below args s) (F0 m pc ls (zq_v G v :: .ref (zq_ad G (j + 8)) :: st.map (zq_v G)))
  rw [zq_ad_p]
  unfold u_lay at hlay
  rcases hfin with hfin | ⟨hfin, hini, hdecl⟩
  · rw [if_neg (by rw [hfin]; decide)] at hlay
    have h6 := u_store hfc hkC hkind hlay hi (hty k hk) (hn G) (hft G)
    exact W.putK C.1 C.2.1 (f := fd) ⟨C.2.2.2.1, hts _ hw, ⟨_, _, _, hi⟩, hst⟩ (by rw [q2]; exact h6) q1 q3 (by rw [hsl]; exact k2_hasslot (q4 k hk)) rfl rfl hd fin
  · rw [if_pos hfin] at hlay
    have hcf : m.cls = cf := by
      obtain ⟨_, _, c', _, _, _, -, -, hf', -, -, -, hown2, -⟩ := Cond.laysFinal_spec hlay
      have e1 : c' = cf := by have := hi.symm.trans hf'; simp at this; exact this.1.symm
      rw [hdecl] at hown2
      rw [← e1]; exact Option.some.inj (C.2.2.2.1.symm.trans hown2)
    have h6 := u_fits hfc hkC hkind (Or.inr hlay) hi (hty k hk) (hn G) (hft G)
    exact W.putFinK C.1 C.2.1 C.2.2.2.1 (hts _ hw) hi hst hcf (C.2.2.2.2.2.2.2.trans hini) (by rw [q2]; exact h6) q1 q3 (by rw [hsl]; exact k2_hasslot (q4 k hk)) rfl rfl hd fin
/-- array cells: what the tables say of the class by its tag -/
theorem zq_tg {G : zq_G} {s : State} (hK : va_K G.1 zq_cls (zq_tys G) s) {t : Nat} {q : ClassId × FieldType} (h : (zq_tys G)[t]? = some q) : ArrOfT s q.1 q.2 ∧ va_RA s q.1 q.2 := hK.2 t q h
theorem at_iald {o N : Nat} {g : Nat → Int32} {i : Int32} (hd : decode M.1 pc = .ok (.iaload, 1)) (hf : f o = .inl (0, N, .inl g)) (hin : vp_in i N) (kk : zq_At l G R M QF (pc + 1) lv (.int (g i.toNatClampNeg) :: st) n f cells slots) : zq_At l G R M QF pc lv (.int i :: .ref o :: st) n f cells slots := by
  intro p e s m args below meth c H locs ls C hz hK hO hs hok hP hS hl
  obtain ⟨j, rfl, hj⟩ := zq_arr hok hf (by decide)
  have he : (zq_W G n f)[j]? = some (G.2.2.2 + j, .inl (G.2.1 0, N, .inl g)) := by rw [zq_W_get hj, hf]; rfl
  show W p l e R s m args below meth c H locs cells slots (QF below args s) (F0 m pc ls (.int i :: .ref (zq_ad G (j + 8)) :: st.map (zq_v G)))
  rw [zq_ad_p]
  exact va_iald C.1 C.2.1 hK hP j 0 he rfl hin hd (kk p e s m args below meth c H locs ls C hz hK hO hs hok hP hS hl)
theorem at_bald {o N : Nat} {g : Nat → Int32} {i : Int32} (hd : decode M.1 pc = .ok (.baload, 1)) (hf : f o = .inl (1, N, .inl g)) (hin : vp_in i N) (kk : zq_At l G R M QF (pc + 1) lv (.int (g i.toNatClampNeg) :: st) n f cells slots) : zq_At l G R M QF pc lv (.int i :: .ref o :: st) n f cells slots := by
  intro p e s m args below meth c H locs ls C hz hK hO hs hok hP hS hl
  obtain ⟨j, rfl, hj⟩ := zq_arr hok hf (by decide)
  have he : (zq_W G n f)[j]? = some (G.2.2.2 + j, .inl (G.2.1 1, N, .inl g)) := by rw [zq_W_get hj, hf]; rfl
  show W p l e R s m args below meth c H locs cells slots (QF below args s) (F0 m pc ls (.int i :: .ref (zq_ad G (j + 8)) :: st.map (zq_v G)))
  rw [zq_ad_p]
  exact va_bald C.1 C.2.1 hK hP j 1 he rfl hin hd (kk p e s m args below meth c H locs ls C hz hK hO hs hok hP hS hl)
theorem at_zald {o N : Nat} {g : Nat → Int32} {i : Int32} (hd : decode M.1 pc = .ok (.baload, 1)) (hf : f o = .inl (2, N, .inl g)) (hin : vp_in i N) (kk : zq_At l G R M QF (pc + 1) lv (.int (g i.toNatClampNeg) :: st) n f cells slots) : zq_At l G R M QF pc lv (.int i :: .ref o :: st) n f cells slots := by
  intro p e s m args below meth c H locs ls C hz hK hO hs hok hP hS hl
  obtain ⟨j, rfl, hj⟩ := zq_arr hok hf (by decide)
  have he : (zq_W G n f)[j]? = some (G.2.2.2 + j, .inl (G.2.1 2, N, .inl g)) := by rw [zq_W_get hj, hf]; rfl
  show W p l e R s m args below meth c H locs cells slots (QF below args s) (F0 m pc ls (.int i :: .ref (zq_ad G (j + 8)) :: st.map (zq_v G)))
  rw [zq_ad_p]
  exact va_zald C.1 C.2.1 hK hP j 2 he rfl hin hd (kk p e s m args below meth c H locs ls C hz hK hO hs hok hP hS hl)
theorem at_lald {o N : Nat} {g : Nat → Int64} {i : Int32} (hd : decode M.1 pc = .ok (.laload, 1)) (hf : f o = .inl (3, N, .inr (.inl g))) (hin : vp_in i N) (kk : zq_At l G R M QF (pc + 1) lv (.long (g i.toNatClampNeg) :: st) n f cells slots) : zq_At l G R M QF pc lv (.int i :: .ref o :: st) n f cells slots := by
  intro p e s m args below meth c H locs ls C hz hK hO hs hok hP hS hl
  obtain ⟨j, rfl, hj⟩ := zq_arr hok hf (by decide)
  have he : (zq_W G n f)[j]? = some (G.2.2.2 + j, .inl (G.2.1 3, N, .inr (.inl g))) := by rw [zq_W_get hj, hf]; rfl
  show W p l e R s m args below meth c H locs cells slots (QF below args s) (F0 m pc ls (.int i :: .ref (zq_ad G (j + 8)) :: st.map (zq_v G)))
  rw [zq_ad_p]
  exact va_lald C.1 C.2.1 hK hP j 3 he rfl hin hd (kk p e s m args below meth c H locs ls C hz hK hO hs hok hP hS hl)
/-- arrays of references by their tag: 4 Clause, 5 Quay, 6 Text -/
theorem at_aald {o t N : Nat} {D : String} {g : Nat → Option Nat} {i : Int32} (hd : decode M.1 pc = .ok (.aaload, 1)) (hf : f o = .inl (t, N, .inr (.inr (.inr (.inr g))))) (ht7 : t < 7) (ht : ∀ G : zq_G, (zq_tys G)[t]? = some (G.2.1 t, .object D)) (hin : vp_in i N) (kk : zq_At l G R M QF (pc + 1) lv (va_rf (g i.toNatClampNeg) :: st) n f cells slots) : zq_At l G R M QF pc lv (.int i :: .ref o :: st) n f cells slots := by
  intro p e s m args below meth c H locs ls C hz hK hO hs hok hP hS hl
  obtain ⟨j, rfl, hj⟩ := zq_arr hok hf ht7
  have he : (zq_W G n f)[j]? = some (G.2.2.2 + j, .inl (G.2.1 t, N, .inr (.inr (.inr (.inr (fun i => (g i).map (zq_ad G))))))) := by rw [zq_W_get hj, hf]; rfl
  have hk := kk p e s m args below meth c H locs ls C hz hK hO hs hok hP hS hl
  have hv : zq_v G (va_rf (g i.toNatClampNeg)) = va_rf ((g i.toNatClampNeg).map (zq_ad G)) := by cases g i.toNatClampNeg <;> rfl
  rw [List.map_cons, hv] at hk
  show W p l e R s m args below meth c H locs cells slots (QF below args s) (F0 m pc ls (.int i :: .ref (zq_ad G (j + 8)) :: st.map (zq_v G)))
  rw [zq_ad_p]
  exact va_aldq C.1 C.2.1 hK hP j t he (ht G) hin hd hk
theorem at_alen {o t N : Nat} {x : (Nat → Int32) ⊕ (Nat → Int64) ⊕ (Nat → UInt32) ⊕ (Nat → UInt64) ⊕ (Nat → Option Nat)} {v : Int32} (hd : decode M.1 pc = .ok (.arraylength, 1)) (hf : f o = .inl (t, N, x)) (ht : t < 7) (hv : Int32.ofNat N = v) (kk : zq_At l G R M QF (pc + 1) lv (.int v :: st) n f cells slots) : zq_At l G R M QF pc lv (.ref o :: st) n f cells slots := by
  intro p e s m args below meth c H locs ls C hz hK hO hs hok hP hS hl
  obtain ⟨j, rfl, hj⟩ := zq_arr hok hf ht
  have he : (zq_W G n f)[j]? = some (G.2.2.2 + j, .inl (G.2.1 t, N, zq_x G x)) := by rw [zq_W_get hj, hf]; rfl
  obtain ⟨ty, hty⟩ : ∃ ty, (zq_tys G)[t]? = some (G.2.1 t, ty) := by
    match t, ht with
    | 0, _ => exact ⟨_, rfl⟩
    | 1, _ => exact ⟨_, rfl⟩
    | 2, _ => exact ⟨_, rfl⟩
    | 3, _ => exact ⟨_, rfl⟩
    | 4, _ => exact ⟨_, rfl⟩
    | 5, _ => exact ⟨_, rfl⟩
    | 6, _ => exact ⟨_, rfl⟩
  show W p l e R s m args below meth c H locs cells slots (QF below args s) (F0 m pc ls (.ref (zq_ad G (j + 8)) :: st.map (zq_v G)))
  rw [zq_ad_p]
  exact va_alen C.1 C.2.1 hK hP j t he hty hv hd (kk p e s m args below meth c H locs ls C hz hK hO hs hok hP hS hl)
theorem at_iast {o N : Nat} {g : Nat → Int32} {i x : Int32} (hd : decode M.1 pc = .ok (.iastore, 1)) (hf : f o = .inl (0, N, .inl g)) (hin : vp_in i N) (kk : zq_At l G R M QF (pc + 1) lv st n (va_up f o (.inl (0, N, .inl (upd g i.toNatClampNeg x)))) cells slots) : zq_At l G R M QF pc lv (.int x :: .int i :: .ref o :: st) n f cells slots := by
  intro p e s m args below meth c H locs ls C hz hK hO hs hok hP hS hl
  obtain ⟨j, rfl, hj⟩ := zq_arr hok hf (by decide)
  have he : (zq_W G n f)[j]? = some (G.2.2.2 + j, .inl (G.2.1 0, N, .inl g)) := by rw [zq_W_get hj, hf]; rfl
  show W p l e R s m args below meth c H locs cells slots (QF below args s) (F0 m pc ls (.int x :: .int i :: .ref (zq_ad G (j + 8)) :: st.map (zq_v G)))
  rw [zq_ad_p]
  refine W.iast C.1 C.2.1 (hP j _ he) ((hK.2 0 _ rfl).1 N (fun j => .int (g j))) (fun q => by cases q) (by show ¬ (_ ∨ (arrV _ _ _).slots.size ≤ _); rw [arrV_size]; exact hin) rfl rfl hd fun H1 e1 e2 e3 => ?_
  refine kk p e s m args below meth c H1 _ ls C hz hK hO (zq_tail hs e2) (hok.up hj) (zq_set hP hj ?_ e3) (hS.put e2 e3 (Nat.le_add_right _ _)) hl
  show H1[G.2.2.2 + j]? = some (vp_cell _ _)
  rw [e1]
  show some ((vp_cell (G.2.1 0) (N, .inl g)).setSlot i.toNatClampNeg (.int x)) = some (vp_cell (G.2.1 0) (N, .inl (upd g i.toNatClampNeg x)))
  rw [vp_cell_i, vp_cell_i, arrV_store]
  congr 2
  funext q
  by_cases hq : q = i.toNatClampNeg
  · simp [updV, upd, hq]
  · simp [updV, upd, hq]
theorem at_bast {o N : Nat} {g : Nat → Int32} {i x : Int32} (hd : decode M.1 pc = .ok (.bastore, 1)) (hf : f o = .inl (1, N, .inl g)) (hin : vp_in i N) (kk : zq_At l G R M QF (pc + 1) lv st n (va_up f o (.inl (1, N, .inl (upd g i.toNatClampNeg x.toInt8.toInt32)))) cells slots) : zq_At l G R M QF pc lv (.int x :: .int i :: .ref o :: st) n f cells slots := by
  intro p e s m args below meth c H locs ls C hz hK hO hs hok hP hS hl
  obtain ⟨j, rfl, hj⟩ := zq_arr hok hf (by decide)
  have he : (zq_W G n f)[j]? = some (G.2.2.2 + j, .inl (G.2.1 1, N, .inl g)) := by rw [zq_W_get hj, hf]; rfl
  show W p l e R s m args below meth c H locs cells slots (QF below args s) (F0 m pc ls (.int x :: .int i :: .ref (zq_ad G (j + 8)) :: st.map (zq_v G)))
  rw [zq_ad_p]
  refine W.bast C.1 C.2.1 (hP j _ he) ((hK.2 1 _ rfl).1 N (fun j => .int (g j))) (fun q => by cases q) (by show ¬ (_ ∨ (arrV _ _ _).slots.size ≤ _); rw [arrV_size]; exact hin) rfl rfl hd fun H1 e1 e2 e3 => ?_
  refine kk p e s m args below meth c H1 _ ls C hz hK hO (zq_tail hs e2) (hok.up hj) (zq_set hP hj ?_ e3) (hS.put e2 e3 (Nat.le_add_right _ _)) hl
  show H1[G.2.2.2 + j]? = some (vp_cell _ _)
  rw [e1]
  show some ((vp_cell (G.2.1 1) (N, .inl g)).setSlot i.toNatClampNeg (narrow .byte (.int x))) = some (vp_cell (G.2.1 1) (N, .inl (upd g i.toNatClampNeg x.toInt8.toInt32)))
  rw [vp_cell_i, vp_cell_i, arrV_store]
  congr 2
  funext q
  by_cases hq : q = i.toNatClampNeg
  · simp [updV, upd, hq]; rfl
  · simp [updV, upd, hq]
theorem at_zast {o N : Nat} {g : Nat → Int32} {i x : Int32} (hd : decode M.1 pc = .ok (.bastore, 1)) (hf : f o = .inl (2, N, .inl g)) (hin : vp_in i N) (kk : zq_At l G R M QF (pc + 1) lv st n (va_up f o (.inl (2, N, .inl (upd g i.toNatClampNeg (vp_nar .boolean x))))) cells slots) : zq_At l G R M QF pc lv (.int x :: .int i :: .ref o :: st) n f cells slots := by
  intro p e s m args below meth c H locs ls C hz hK hO hs hok hP hS hl
  obtain ⟨j, rfl, hj⟩ := zq_arr hok hf (by decide)
  have he : (zq_W G n f)[j]? = some (G.2.2.2 + j, .inl (G.2.1 2, N, .inl g)) := by rw [zq_W_get hj, hf]; rfl
  show W p l e R s m args below meth c H locs cells slots (QF below args s) (F0 m pc ls (.int x :: .int i :: .ref (zq_ad G (j + 8)) :: st.map (zq_v G)))
  rw [zq_ad_p]
  refine W.zast C.1 C.2.1 (hP j _ he) ((hK.2 2 _ rfl).1 N (fun j => .int (g j))) (fun q => by cases q) (by show ¬ (_ ∨ (arrV _ _ _).slots.size ≤ _); rw [arrV_size]; exact hin) rfl rfl hd fun H1 e1 e2 e3 => ?_
  refine kk p e s m args below meth c H1 _ ls C hz hK hO (zq_tail hs e2) (hok.up hj) (zq_set hP hj ?_ e3) (hS.put e2 e3 (Nat.le_add_right _ _)) hl
  show H1[G.2.2.2 + j]? = some (vp_cell _ _)
  rw [e1]
  show some ((vp_cell (G.2.1 2) (N, .inl g)).setSlot i.toNatClampNeg (narrow .boolean (.int x))) = some (vp_cell (G.2.1 2) (N, .inl (upd g i.toNatClampNeg (vp_nar .boolean x))))
  rw [vp_cell_i, vp_cell_i, arrV_store]
  congr 2
  funext q
  by_cases hq : q = i.toNatClampNeg
  · simp [updV, upd, hq, vp_nar]; try rfl
  · simp [updV, upd, hq]
theorem at_last {o N : Nat} {g : Nat → Int64} {i : Int32} {x : Int64} (hd : decode M.1 pc = .ok (.lastore, 1)) (hf : f o = .inl (3, N, .inr (.inl g))) (hin : vp_in i N) (kk : zq_At l G R M QF (pc + 1) lv st n (va_up f o (.inl (3, N, .inr (.inl (vp_updL g i.toNatClampNeg x))))) cells slots) : zq_At l G R M QF pc lv (.long x :: .int i :: .ref o :: st) n f cells slots := by
  intro p e s m args below meth c H locs ls C hz hK hO hs hok hP hS hl
  obtain ⟨j, rfl, hj⟩ := zq_arr hok hf (by decide)
  have he : (zq_W G n f)[j]? = some (G.2.2.2 + j, .inl (G.2.1 3, N, .inr (.inl g))) := by rw [zq_W_get hj, hf]; rfl
  show W p l e R s m args below meth c H locs cells slots (QF below args s) (F0 m pc ls (.long x :: .int i :: .ref (zq_ad G (j + 8)) :: st.map (zq_v G)))
  rw [zq_ad_p]
  refine W.last C.1 C.2.1 (hP j _ he) ((hK.2 3 _ rfl).1 N (fun j => .long (g j))) (fun q => by cases q) (by show ¬ (_ ∨ (arrV _ _ _).slots.size ≤ _); rw [arrV_size]; exact hin) rfl rfl hd fun H1 e1 e2 e3 => ?_
  refine kk p e s m args below meth c H1 _ ls C hz hK hO (zq_tail hs e2) (hok.up hj) (zq_set hP hj ?_ e3) (hS.put e2 e3 (Nat.le_add_right _ _)) hl
  show H1[G.2.2.2 + j]? = some (vp_cell _ _)
  rw [e1]
  show some ((vp_cell (G.2.1 3) (N, .inr (.inl g))).setSlot i.toNatClampNeg (.long x)) = some (vp_cell (G.2.1 3) (N, .inr (.inl (vp_updL g i.toNatClampNeg x))))
  rw [vp_cell_l, vp_cell_l, arrV_store]
  congr 2
  funext q
  by_cases hq : q = i.toNatClampNeg
  · simp [updV, vp_updL, hq]
  · simp [updV, vp_updL, hq]
theorem at_aast {o t N v ci : Nat} {r : vw_C} {vs : List Value} {g : Nat → Option Nat} {i : Int32} (hd : decode M.1 pc = .ok (.aastore, 1)) (hf : f o = .inl (t, N, .inr (.inr (.inr (.inr g))))) (ht7 : t < 7) (ht : ∀ G : zq_G, (zq_tys G)[t]? = some (G.2.1 t, .object r.1)) (hv : f v = .inr (ci, vs)) (hc : zq_cls[ci]? = some r) (hin : vp_in i N) (kk : zq_At l G R M QF (pc + 1) lv st n (va_up f o (.inl (t, N, .inr (.inr (.inr (.inr (va_up g i.toNatClampNeg (some v)))))))) cells slots) : zq_At l G R M QF pc lv (.ref v :: .int i :: .ref o :: st) n f cells slots := by
  intro p e s m args below meth c H locs ls C hz hK hO hs hok hP hS hl
  obtain ⟨j, rfl, hj⟩ := zq_arr hok hf ht7
  obtain ⟨jv, rfl, hjv⟩ := zq_obj hok hv
  have he : (zq_W G n f)[j]? = some (G.2.2.2 + j, .inl (G.2.1 t, N, .inr (.inr (.inr (.inr (fun i => (g i).map (zq_ad G))))))) := by rw [zq_W_get hj, hf]; rfl
  have hev : (zq_W G n f)[jv]? = some (G.2.2.2 + jv, .inr (ci, vs.map (zq_v G))) := by rw [zq_W_get hjv, hv]; rfl
  show W p l e R s m args below meth c H locs cells slots (QF below args s) (F0 m pc ls (.ref (zq_ad G (jv + 8)) :: .int i :: .ref (zq_ad G (j + 8)) :: st.map (zq_v G)))
  rw [zq_ad_p, zq_ad_p]
  have hlt : i.toNatClampNeg < N := Nat.not_le.mp fun q => hin (Or.inr q)
  have h0 : ¬ i < 0 := fun q => hin (Or.inl q)
  obtain ⟨r', hr', cellV, g1, g2, g3, -⟩ := hP jv _ hev
  have hcls := (hK.1 ci r hc).2
  obtain ⟨kA, comp, k1, k2, k3, -⟩ := (hK.2 t _ (ht G)).2
  have hcomp : comp = G.1.1 ci := Option.some.inj (k3.symm.trans hcls.1)
  subst hcomp
  obtain ⟨kC, hkC, -⟩ := hcls.2
  refine W.aast C.1 C.2.1 (hP j _ he) (fun q h => by cases h) (fun h => by cases h) k1 k2 rfl hkC ⟨h0, by show _ < (arrV _ _ _).slots.size; rw [arrV_size]; exact hlt⟩ g1 (fun q h => by rw [g3] at h; cases h) (by rw [g2]; exact hkC) (by rw [g2]; exact va_assign hcls) rfl rfl hd fun H1 e1 e2 e3 => ?_
  refine kk p e s m args below meth c H1 _ ls C hz hK hO (zq_tail hs e2) (hok.up hj) (zq_set hP hj ?_ e3) (hS.put e2 e3 (Nat.le_add_right _ _)) hl
  show H1[G.2.2.2 + j]? = some (vp_cell _ _)
  rw [e1]
  show some ((vp_cell (G.2.1 t) (N, .inr (.inr (.inr (.inr (fun i => (g i).map (zq_ad G))))))).setSlot i.toNatClampNeg (.ref (G.2.2.2 + jv))) = some (vp_cell (G.2.1 t) (N, .inr (.inr (.inr (.inr (fun q => (va_up g i.toNatClampNeg (some (jv + 8)) q).map (zq_ad G)))))))
  rw [vp_cell_q, vp_cell_q, arrV_store]
  congr 2
  funext q
  by_cases hq : q = i.toNatClampNeg
  · simp [updV, va_up, va_rf, hq, zq_ad_p]
  · simp [updV, va_up, hq]
theorem at_aastN {o t N : Nat} {D : String} {g : Nat → Option Nat} {i : Int32} (hd : decode M.1 pc = .ok (.aastore, 1)) (hf : f o = .inl (t, N, .inr (.inr (.inr (.inr g))))) (ht7 : t < 7) (ht : ∀ G : zq_G, (zq_tys G)[t]? = some (G.2.1 t, .object D)) (hin : vp_in i N) (kk : zq_At l G R M QF (pc + 1) lv st n (va_up f o (.inl (t, N, .inr (.inr (.inr (.inr (va_up g i.toNatClampNeg none))))))) cells slots) : zq_At l G R M QF pc lv (.null :: .int i :: .ref o :: st) n f cells slots := by
  intro p e s m args below meth c H locs ls C hz hK hO hs hok hP hS hl
  obtain ⟨j, rfl, hj⟩ := zq_arr hok hf ht7
  have he : (zq_W G n f)[j]? = some (G.2.2.2 + j, .inl (G.2.1 t, N, .inr (.inr (.inr (.inr (fun i => (g i).map (zq_ad G))))))) := by rw [zq_W_get hj, hf]; rfl
  show W p l e R s m args below meth c H locs cells slots (QF below args s) (F0 m pc ls (.null :: .int i :: .ref (zq_ad G (j + 8)) :: st.map (zq_v G)))
  rw [zq_ad_p]
  refine va_WaastN C.1 C.2.1 (hP j _ he) ((hK.2 t _ (ht G)).1 N (fun j => va_rf ((g j).map (zq_ad G)))) (fun q => by cases q) (by show ¬ (_ ∨ (arrV _ _ _).slots.size ≤ _); rw [arrV_size]; exact hin) rfl rfl hd fun H1 e1 e2 e3 => ?_
  refine kk p e s m args below meth c H1 _ ls C hz hK hO (zq_tail hs e2) (hok.up hj) (zq_set hP hj ?_ e3) (hS.put e2 e3 (Nat.le_add_right _ _)) hl
  show H1[G.2.2.2 + j]? = some (vp_cell _ _)
  rw [e1]
  show some ((vp_cell (G.2.1 t) (N, .inr (.inr (.inr (.inr (fun i => (g i).map (zq_ad G))))))).setSlot i.toNatClampNeg .null) = some (vp_cell (G.2.1 t) (N, .inr (.inr (.inr (.inr (fun q => (va_up g i.toNatClampNeg none q).map (zq_ad G)))))))
  rw [vp_cell_q, vp_cell_q, arrV_store]
  congr 2
  funext q
  by_cases hq : q = i.toNatClampNeg
  · simp [updV, va_up, va_rf, hq]
  · simp [updV, va_up, hq]
/-- a new object of class ci -/
theorem at_new {idx ci : Nat} {D : String} {T : u_T} {N : Nat} {fs : List Value} (hd : decode M.1 pc = .ok (.new idx, 3)) (hc : zq_cls[ci]? = some (D, T, N)) (hw : Cond.classLink M.2.1 idx D ∈ zq_ws) (hw2 : Cond.instantiable D N ∈ zq_ws) (hw3 : Cond.initialized D ∈ zq_ws) (hfs : ∀ G : zq_G, ∀ j, j < N → defaultValue (zq_ty ci j) = vp_V (fs.map (zq_v G)) j) (h1 : cells + 1 ≤ R.cells) (h2 : slots + N ≤ R.slots)
    (kk : zq_At l G R M QF (pc + 3) lv (.ref (n + 8) :: st) (n + 1) (va_up f (n + 8) (.inr (ci, fs))) (cells + 1) (slots + N)) : zq_At l G R M QF pc lv st n f cells slots := by
  intro p e s m args below meth c H locs ls C hz hK hO hs hok hP hS hl
  have hts := C.2.2.2.2.1
  have hKn := hK.1 ci _ hc
  refine W.newcK C.1 C.2.1 C.2.2.2.1 (hts _ hw) (hts _ hw2) (hts _ hw3) rfl hd h1 h2 hKn.2.1 hs fun H1 kC hkC e1 z1 o1 => ?_
  have hk := kk p e s m args below meth c H1 locs ls C hz hK hO (by rw [z1]; omega) hok.push (zq_new hP ⟨_, hc, (u_born (zq_ty ci) hts (zq_cl hc).1 hKn hkC e1 (zq_cl hc).2.1).to (hfs G)⟩ (fun q hq => o1 q (by omega))) ⟨Nat.le_trans hS.1 (by omega), fun x h1 h2 => (o1 x (by have := hS.1; omega)).trans (hS.2.1 x h1 h2), hS.2.2⟩ hl
  rw [List.map_cons, show zq_v G (.ref (n + 8)) = .ref (G.2.2.2 + n) from congrArg Value.ref (zq_ad_p G n)] at hk
  exact hk
/-- the types of new rows of numbers, by tag -/
def zq_at (t : Nat) : ArrayType := match t with
  | 0 => .int
  | 1 => .byte
  | 2 => .boolean
  | _ => .long
def zq_blank (t N : Nat) : zq_E := match t with
  | 3 => .inl (3, N, .inr (.inl (fun _ => 0)))
  | t => .inl (t, N, .inl (fun _ => 0))
theorem at_newa {t N : Nat} {i : Int32} (ht : t < 4) (hd : decode M.1 pc = .ok (.newarray (zq_at t), 2)) (hw : Cond.arrayClass (newarray.typeOf (zq_at t)) ∈ zq_ws) (hi : ¬ i < 0) (hN : i.toNatClampNeg = N) (hb : N ≤ 65536) (h1 : cells + 1 ≤ R.cells) (h2 : slots + N ≤ R.slots)
    (kk : zq_At l G R M QF (pc + 2) lv (.ref (n + 8) :: st) (n + 1) (va_up f (n + 8) (zq_blank t N)) (cells + 1) (slots + N)) : zq_At l G R M QF pc lv (.int i :: st) n f cells slots := by
  intro p e s m args below meth c H locs ls C hz hK hO hs hok hP hS hl
  have hts := C.2.2.2.2.1
  refine va_newaK C.1 C.2.1 (hts _ hw) rfl hd rfl hi hN (by match t, ht with
    | 0, _ => show N * 4 ≤ _; omega
    | 1, _ => show N * 1 ≤ _; omega
    | 2, _ => show N * 1 ≤ _; omega
    | 3, _ => show N * 8 ≤ _; omega) h1 h2 hs fun H1 cA e1 z1 o1 hAr hNm => ?_
  have he : va_at G.1 zq_cls (G.2.2.2 + n, zq_e G (zq_blank t N)) H1 := by
    match t, ht with
    | 0, _ =>
      have hA : cA = G.2.1 0 := Option.some.inj (hNm.symm.trans (hK.2 0 _ rfl).2)
      subst hA
      exact e1
    | 1, _ =>
      have hA : cA = G.2.1 1 := Option.some.inj (hNm.symm.trans (hK.2 1 _ rfl).2)
      subst hA
      exact e1
    | 2, _ =>
      have hA : cA = G.2.1 2 := Option.some.inj (hNm.symm.trans (hK.2 2 _ rfl).2)
      subst hA
      exact e1
    | 3, _ =>
      have hA : cA = G.2.1 3 := Option.some.inj (hNm.symm.trans (hK.2 3 _ rfl).2)
      subst hA
      exact e1
  have hk := kk p e s m args below meth c H1 locs ls C hz hK hO (by rw [z1]; omega) hok.push (zq_new hP he (fun q hq => o1 q (by omega))) ⟨Nat.le_trans hS.1 (by omega), fun x h1 h2 => (o1 x (by have := hS.1; omega)).trans (hS.2.1 x h1 h2), hS.2.2⟩ hl
  rw [List.map_cons, show zq_v G (.ref (n + 8)) = .ref (G.2.2.2 + n) from congrArg Value.ref (zq_ad_p G n)] at hk
  exact hk
theorem at_anew {idx t N : Nat} {D : String} {i : Int32} (hd : decode M.1 pc = .ok (.anewarray idx, 3)) (ht : ∀ G : zq_G, (zq_tys G)[t]? = some (G.2.1 t, .object D)) (hD : ∀ (G : zq_G) (s : State), zq_old G s s.heap → va_AO D s) (hw : Cond.classLink M.2.1 idx D ∈ zq_ws) (hi : ¬ i < 0) (hN : i.toNatClampNeg = N) (hb : N ≤ 65536) (h1 : cells + 1 ≤ R.cells) (h2 : slots + N ≤ R.slots)
    (kk : zq_At l G R M QF (pc + 3) lv (.ref (n + 8) :: st) (n + 1) (va_up f (n + 8) (.inl (t, N, .inr (.inr (.inr (.inr (fun _ => none))))))) (cells + 1) (slots + N)) : zq_At l G R M QF pc lv (.int i :: st) n f cells slots := by
  intro p e s m args below meth c H locs ls C hz hK hO hs hok hP hS hl
  have hts := C.2.2.2.2.1
  subst hN
  refine W.anew C.1 C.2.1 C.2.2.2.1 (hts _ hw) (va_AO.use (hD G s hO)) rfl hd rfl hi (by omega) h1 h2 fun cA kA comp f1 f2 f3 f4 => ?_
  generalize hH1 : H.push ({ cls := cA, slots := Array.replicate i.toNatClampNeg .null, vm := .none } : Cell) = H1
  have z1 : H1.size = H.size + 1 := by rw [← hH1, Array.size_push]
  have e1 : H1[H.size]? = some (arrV cA i.toNatClampNeg (fun _ => .null)) := by rw [← hH1, Array.getElem?_push_size, ← arrV_new]
  have o1 : ∀ q : Nat, q < H.size → H1[q]? = H[q]? := fun q hq => by rw [← hH1, Array.getElem?_push, if_neg (Nat.ne_of_lt hq)]
  obtain ⟨kA', comp', k1, k2, k3, k4⟩ := (hK.2 t _ (ht G)).2
  have hA : cA = G.2.1 t := Option.some.inj (f1.symm.trans k4)
  subst hA
  have hk := kk p e s m args below meth c H1 locs ls C hz hK hO (by rw [z1]; omega) hok.push (zq_new hP (show H1[G.2.2.2 + n]? = some (vp_cell _ _) by rw [← hs]; exact e1) o1) ⟨Nat.le_trans hS.1 (by omega), fun x h1 h2 => (o1 x (by have := hS.1; omega)).trans (hS.2.1 x h1 h2), hS.2.2⟩ hl
  rw [List.map_cons, show zq_v G (.ref (n + 8)) = .ref (G.2.2.2 + n) from congrArg Value.ref (zq_ad_p G n)] at hk
  rw [hs]
  exact hk
end ZQ2
