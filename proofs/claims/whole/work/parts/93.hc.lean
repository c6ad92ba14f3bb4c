/-! ===== the class: a clause of either kind, in one form ===== -/
/-- readClause reads a clause as 'one' does; PC what has come of it -/
def zHC (l : Launch) (G : zq_G) (N : Nat) (pl : Nat → Nat) (tk : Nat → Int32) (o : Bool) (D : Nat) (one : zQ → zQ) (PC : Nat → Nat → (Nat → Nat × Nat) → Nat → (Nat → Int32) → Prop) : Prop :=
  ∀ (n : Nat) (ρ : Nat → zq_E) (κ : zl_S) (q : zQ) (cs : Nat) (cd : Nat → Nat × Nat) (B sz : Nat) (F : Nat → Nat → Int32) (post : Option Value → Nat → (Nat → zq_E) → Prop), zRw κ N pl tk o → zqk N q → zPs κ tk q cs cd → (q.2.2 = 0 → cs ≤ q.1 ∧ q.2.1 ≤ 50) → 70 ≤ B → n + 8 = B + 2 + sz → zTb ρ B sz F → sz < 12 →
    (∀ κ' cs' cd' ρ' F', zRf κ' κ → zPs κ' tk (one q) cs' cd' → zCd (PC q.1 (one q).1) q (one q) cs cs' cd cd' F' → (∀ k, k < B → ρ' k = ρ k) → zTb ρ' B (sz + 1) (fun i => if i = sz then F' else F i) → post none (n + 1) (zl_h κ' ρ')) →
    zq_Runs l G D 1 6 yX8_readClause [.ref 48, .ref B] n (zl_h κ ρ) post
section ZC41
variable {l : Launch} {G : zq_G} {D N : Nat} {c v pl : Nat → Nat} {tk : Nat → Int32}
theorem zHC_L (hD : 42 ≤ D) (hT : zTm N c v pl tk) : zHC l G N pl tk false D (zpClause c v pl 8 15 false) (fun a b cd cs F => ∃ C : zLC, zSpC c v C a b ∧ zLcl cd cs F C) :=
  fun _ _ _ _ _ _ _ _ _ _ h1 h2 h3 h4 h5 h6 h7 h8 hp => zc_clauseL hD hT h1 h2 h3 h4 h5 h6 h7 h8 hp
theorem zHC_O (hD : 42 ≤ D) (hT : zTm N c v pl tk) : zHC l G N pl tk true D (zpOrder c v pl 15 21 true) (fun a b cd cs F => ∃ C : zOC, zSpO c v C a b ∧ zOcl cd cs F C) :=
  fun _ _ _ _ _ _ _ _ _ _ h1 h2 h3 h4 h5 h6 h7 h8 hp => zc_clauseO hD hT h1 h2 h3 h4 h5 h6 h7 h8 hp
end ZC41

