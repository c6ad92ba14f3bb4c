/-! ===== the class: laws and orders are read ===== -/
theorem zlist {α : Type} {Sp : α → Nat → Nat → Prop} {Lc : (Nat → Int32) → α → Prop} {s e : Nat → Nat} {F : Nat → Nat → Int32} {sz N : Nat} (h0 : s 0 = 0) (h1 : ∀ i, i < sz → ∃ C, Sp C (s i) (e i) ∧ Lc (F i) C) (h2 : ∀ i, i + 1 < sz → s (i + 1) = e i + 1) (h3 : e (sz - 1) = N) (hz : 1 ≤ sz) : ∃ L : List α, L.length = sz ∧ zPre Sp L 0 (N + 1) ∧ ∀ i C, L[i]? = some C → Lc (F i) C := by
  have key : ∀ m, m ≤ sz → ∃ L : List α, L.length = m ∧ zPre Sp L 0 (if m < sz then s m else N + 1) ∧ ∀ i C, L[i]? = some C → Lc (F i) C := by
    intro m
    induction m with
    | zero =>
      intro _
      rw [if_pos (by omega)]
      exact ⟨[], rfl, h0.symm, fun i C h => by simp at h⟩
    | succ m ih =>
      intro hm
      obtain ⟨L, a1, a2, a3⟩ := ih (by omega)
      obtain ⟨C, c1, c2⟩ := h1 m (by omega)
      rw [if_pos (by omega)] at a2
      refine ⟨L ++ [C], by rw [List.length_append, a1]; rfl, ?_, fun i C' hC' => ?_⟩
      · have hs := zPre_snoc c1 L 0 a2
        by_cases e1 : m + 1 < sz
        · rw [if_pos e1, h2 m e1]; exact hs
        · rw [if_neg e1, ← h3, show sz - 1 = m by omega]; exact hs
      · rcases Nat.lt_or_ge i L.length with hi | hi
        · rw [List.getElem?_append_left hi] at hC'
          exact a3 i C' hC'
        · rw [List.getElem?_append_right hi] at hC'
          have hz : i - L.length < 1 := (List.getElem?_eq_some_iff.mp hC').1
          rw [show i - L.length = 0 by omega] at hC'
          cases hC'
          rw [show i = m by omega]
          exact c2
  obtain ⟨L, a1, a2, a3⟩ := key sz (Nat.le_refl _)
  rw [if_neg (by omega)] at a2
  exact ⟨L, a1, a2, a3⟩
/-- orders in their cells -/
def zOT (ρ : Nat → zq_E) (tx : Nat) (L : List zOC) : Prop := ∃ (N : Nat) (cd : Nat → Nat × Nat) (F : Nat → Nat → Int32), zTS ρ tx L.length N cd F ∧ ∀ i c, L[i]? = some c → zOcl cd N (F i) c
section ZC48
variable {l : Launch} {G : zq_G} {D n : Nat} {ρ : Nat → zq_E} {post : Option Value → Nat → (Nat → zq_E) → Prop} {κ : zl_S}
theorem zRd_C2 (U : Nat → Int32) (z : Nat) (o : Bool) : zRd U z o = (if (zpC2 (zcN U z) (zpN U z) (zpOne (zcN U z) (zvN U z) (zpN U z) (if o = true then 15 else 8) (if o = true then 21 else 15) o) 402 1 (zpOne (zcN U z) (zvN U z) (zpN U z) (if o = true then 15 else 8) (if o = true then 21 else 15) o (0, 0, 0))).2.2 = 0 ∧ (zpC2 (zcN U z) (zpN U z) (zpOne (zcN U z) (zvN U z) (zpN U z) (if o = true then 15 else 8) (if o = true then 21 else 15) o) 402 1 (zpOne (zcN U z) (zvN U z) (zpN U z) (if o = true then 15 else 8) (if o = true then 21 else 15) o (0, 0, 0))).1 < (zTok U z).length then zpf (zpN U z) (zpC2 (zcN U z) (zpN U z) (zpOne (zcN U z) (zvN U z) (zpN U z) (if o = true then 15 else 8) (if o = true then 21 else 15) o) 402 1 (zpOne (zcN U z) (zvN U z) (zpN U z) (if o = true then 15 else 8) (if o = true then 21 else 15) o (0, 0, 0))) else zpC2 (zcN U z) (zpN U z) (zpOne (zcN U z) (zvN U z) (zpN U z) (if o = true then 15 else 8) (if o = true then 21 else 15) o) 402 1 (zpOne (zcN U z) (zvN U z) (zpN U z) (if o = true then 15 else 8) (if o = true then 21 else 15) o (0, 0, 0))) := by
  unfold zRd zAns zpAll
  rw [zpCs_C2]
theorem zc_readLaw {z : Nat} (hD : 45 ≤ D) (hz : z ≤ 400) (hn : 62 ≤ n) (hU : ∀ j, j < z → ∃ x, x < 256 ∧ κ.2.1 47 j = nI x)
    (hbad : (zRd (κ.2.1 47) z false).2.2 ≠ 0 → ∀ κ' ρ' n', zRg κ' κ → κ'.1 48 7 = nI ((zRd (κ.2.1 47) z false).2.2 - 1) → (∀ k, k < n + 8 → ρ' k = ρ k) → n ≤ n' → (∀ k fs, n + 8 ≤ k → k < n' + 8 → ρ' k ≠ .inr (7, fs)) → post (some .null) n' (zl_h κ' ρ'))
    (hgood : (zRd (κ.2.1 47) z false).2.2 = 0 → ∀ κ' ρ' n' L, zRg κ' κ → κ'.1 48 7 = -1 → (∀ k, k < n + 8 → ρ' k = ρ k) → n ≤ n' → (∀ k fs, n + 8 ≤ k → k < n' + 8 → ρ' k ≠ .inr (7, fs)) → (∀ ρ2, (∀ k, n + 8 ≤ k → k < n' + 8 → ρ2 k = ρ' k) → zLT ρ2 (n + 8) L) → zSpCs (zcN (κ.2.1 47) z) (zvN (κ.2.1 47) z) (zTok (κ.2.1 47) z).length L 0 → post (some (.ref (n + 8))) n' (zl_h κ' ρ')) :
    zq_Runs l G D 15 887 yX8_read [.ref 48, .ref 47, .int (nI z), .int (nI 0)] n (zl_h κ ρ) post := by
  have hl : (zTok (κ.2.1 47) z).length ≤ z := ztok_len _ _ 401 0 (Nat.zero_le _)
  have hT := zTm_of hz hl hU
  have h1 : zpOne (zcN (κ.2.1 47) z) (zvN (κ.2.1 47) z) (zpN (κ.2.1 47) z) 8 15 false = zpClause (zcN (κ.2.1 47) z) (zvN (κ.2.1 47) z) (zpN (κ.2.1 47) z) 8 15 false := by
    funext q
    unfold zpOne
    rw [if_neg (by decide)]
  have hd := zRd_C2 (κ.2.1 47) z false
  rw [show (if false = true then 15 else 8) = 8 from rfl, show (if false = true then 21 else 15) = 15 from rfl, h1] at hd
  have hone := zgd_one (v := zvN (κ.2.1 47) z) (fw := 8) (lw := 15) (o := false) hT.1 hT.2.1 hT.2.2.2.1 (by decide)
  rw [h1] at hone
  exact zc_read (o := false) hD hz hn hU hone (zHC_L (by omega) hT) (fun a b cd cd' N N' F h hN hc => ⟨h.choose, h.choose_spec.1, zLcl_ext h.choose_spec.2 hN hc⟩) _ _ rfl hd.symm hbad (fun e κ' ρ' n' cs cd sz F g1 g2 g3 g4 g7 g5 g6 ⟨s, e, b1, b2, b3, b4⟩ => by
    obtain ⟨L, a1, a2, a3⟩ := zlist (Sp := zSpC (zcN (κ.2.1 47) z) (zvN (κ.2.1 47) z)) (Lc := zLcl cd cs) b1 b2 b3 b4 g6
    refine hgood (by assumption) κ' ρ' n' L g1 g2 g3 g4 g7 (fun ρ2 h2 => ⟨cs, cd, F, by rw [a1]; exact g5 ρ2 h2, a3⟩) (zPre_L L 0 a2))
theorem zc_readOrders {z : Nat} (hD : 45 ≤ D) (hz : z ≤ 400) (hn : 62 ≤ n) (hU : ∀ j, j < z → ∃ x, x < 256 ∧ κ.2.1 47 j = nI x)
    (hbad : (zRd (κ.2.1 47) z true).2.2 ≠ 0 → ∀ κ' ρ' n', zRg κ' κ → κ'.1 48 7 = nI ((zRd (κ.2.1 47) z true).2.2 - 1) → (∀ k, k < n + 8 → ρ' k = ρ k) → n ≤ n' → (∀ k fs, n + 8 ≤ k → k < n' + 8 → ρ' k ≠ .inr (7, fs)) → post (some .null) n' (zl_h κ' ρ'))
    (hgood : (zRd (κ.2.1 47) z true).2.2 = 0 → ∀ κ' ρ' n' L, zRg κ' κ → κ'.1 48 7 = -1 → (∀ k, k < n + 8 → ρ' k = ρ k) → n ≤ n' → (∀ k fs, n + 8 ≤ k → k < n' + 8 → ρ' k ≠ .inr (7, fs)) → (∀ ρ2, (∀ k, n + 8 ≤ k → k < n' + 8 → ρ2 k = ρ' k) → zOT ρ2 (n + 8) L) → zSpOs (zcN (κ.2.1 47) z) (zvN (κ.2.1 47) z) (zTok (κ.2.1 47) z).length L 0 → post (some (.ref (n + 8))) n' (zl_h κ' ρ')) :
    zq_Runs l G D 15 887 yX8_read [.ref 48, .ref 47, .int (nI z), .int (nI 1)] n (zl_h κ ρ) post := by
  have hl : (zTok (κ.2.1 47) z).length ≤ z := ztok_len _ _ 401 0 (Nat.zero_le _)
  have hT := zTm_of hz hl hU
  have h1 : zpOne (zcN (κ.2.1 47) z) (zvN (κ.2.1 47) z) (zpN (κ.2.1 47) z) 15 21 true = zpOrder (zcN (κ.2.1 47) z) (zvN (κ.2.1 47) z) (zpN (κ.2.1 47) z) 15 21 true := by
    funext q
    unfold zpOne
    rw [if_pos rfl]
  have hd := zRd_C2 (κ.2.1 47) z true
  rw [show (if true = true then 15 else 8) = 15 from rfl, show (if true = true then 21 else 15) = 21 from rfl, h1] at hd
  have hone := zgd_one (v := zvN (κ.2.1 47) z) (fw := 15) (lw := 21) (o := true) hT.1 hT.2.1 hT.2.2.2.1 (by decide)
  rw [h1] at hone
  exact zc_read (o := true) hD hz hn hU hone (zHC_O (by omega) hT) (fun a b cd cd' N N' F h hN hc => ⟨h.choose, h.choose_spec.1, zOcl_ext h.choose_spec.2 hN hc⟩) _ _ rfl hd.symm hbad (fun e κ' ρ' n' cs cd sz F g1 g2 g3 g4 g7 g5 g6 ⟨s, e, b1, b2, b3, b4⟩ => by
    obtain ⟨L, a1, a2, a3⟩ := zlist (Sp := zSpO (zcN (κ.2.1 47) z) (zvN (κ.2.1 47) z)) (Lc := zOcl cd cs) b1 b2 b3 b4 g6
    refine hgood (by assumption) κ' ρ' n' L g1 g2 g3 g4 g7 (fun ρ2 h2 => ⟨cs, cd, F, by rw [a1]; exact g5 ρ2 h2, a3⟩) (zPre_O L 0 a2))
end ZC48

