/-! ===== the class: clauses one behind the other ===== -/
theorem zLcl_ext {cd cd' : Nat → Nat × Nat} {N N' : Nat} {F : Nat → Int32} {C : zLC} (h : zLcl cd N F C) (hN : N ≤ N') (hc : ∀ k, k < N → cd' k = cd k) : zLcl cd' N' F C := by
  obtain ⟨a1, a2, a3, a4, a5⟩ := h
  refine ⟨a1, a2, a3, fun e => zHas_ext (a4 e) hN hc, ?_⟩
  rcases a5 with a5 | a5
  · exact Or.inl a5
  · exact Or.inr (zHas_ext a5 hN hc)
theorem zOcl_ext {cd cd' : Nat → Nat × Nat} {N N' : Nat} {F : Nat → Int32} {C : zOC} (h : zOcl cd N F C) (hN : N ≤ N') (hc : ∀ k, k < N → cd' k = cd k) : zOcl cd' N' F C := by
  obtain ⟨a1, a2, a3, a4, a5, a6, a7⟩ := h
  refine ⟨a1, a2, a3, fun e => zHas_ext (a4 e) hN hc, fun e => ⟨zHas_ext (a5 e).1 hN hc, zHas_ext (a5 e).2 hN hc⟩, ?_, a7⟩
  rcases a6 with a6 | a6
  · exact Or.inl a6
  · exact Or.inr (zHas_ext a6 hN hc)
/-- clauses from token s on; the next would begin at i -/
def zPre {α : Type} (Sp : α → Nat → Nat → Prop) : List α → Nat → Nat → Prop
  | [], s, i => s = i
  | C :: Cs, s, i => ∃ j, Sp C s j ∧ zPre Sp Cs (j + 1) i
theorem zPre_snoc {α : Type} {Sp : α → Nat → Nat → Prop} {C : α} {i j : Nat} (hC : Sp C i j) : ∀ (L : List α) (s : Nat), zPre Sp L s i → zPre Sp (L ++ [C]) s (j + 1)
  | [], s, h => by
    have h : s = i := h
    subst h
    exact ⟨j, hC, rfl⟩
  | C' :: Cs, s, h => by
    obtain ⟨k, h1, h2⟩ := h
    exact ⟨k, h1, zPre_snoc hC Cs (k + 1) h2⟩
theorem zPre_L {cd vl : Nat → Nat} {E : Nat} : ∀ (L : List zLC) (s : Nat), zPre (zSpC cd vl) L s (E + 1) → zSpCs cd vl E L s
  | [], _, h => h
  | _ :: Cs, _, ⟨j, h1, h2⟩ => ⟨j, h1, zPre_L Cs (j + 1) h2⟩
theorem zPre_O {cd vl : Nat → Nat} {E : Nat} : ∀ (L : List zOC) (s : Nat), zPre (zSpO cd vl) L s (E + 1) → zSpOs cd vl E L s
  | [], _, h => h
  | _ :: Cs, _, ⟨j, h1, h2⟩ => ⟨j, h1, zPre_O Cs (j + 1) h2⟩
/-- a text that is read, in its cells -/
theorem zTS_b {ρ : Nat → zq_E} {B sz N cp : Nat} {cd : Nat → Nat × Nat} {F : Nat → Nat → Int32} (hB : 70 ≤ B) (hsz : sz ≤ 12) (h1 : ρ B = .inr (10, [.ref (B + 1), .int (nI sz), .ref cp])) (h2 : ρ (B + 1) = .inl (4, 12, .inr (.inr (.inr (.inr (fun i => if i < sz then some (B + 2 + i) else none)))))) (h3 : ∀ i, i < sz → ρ (B + 2 + i) = zce (F i)) (hc : zCp ρ cp N cd) : zTS ρ B sz N cd F :=
  ⟨B + 1, cp, _, fun i => B + 2 + i, ⟨hB, h1⟩, hc, by omega, hsz, h2, fun i hi => ⟨if_pos hi, (by show 70 ≤ B + 2 + i; omega), h3 i hi⟩⟩

