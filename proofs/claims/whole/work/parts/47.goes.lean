/-! ===== the Model: a whole order gone along ===== -/
theorem zsl_s (σ : zm_S) (a i : Nat) (v : Int64) : (zm_sl σ a i v).2.2 a i = v := by simp [zm_sl, va_up, vp_updL]
theorem zsl_o (σ : zm_S) (a : Nat) {i j : Nat} (h : j ≠ i) (v : Int64) : (zm_sl σ a i v).2.2 a j = σ.2.2 a j := by simp [zm_sl, va_up, vp_updL, h]
/-- whether all its sums come to something -/
def zall3 (W : Nat → Nat → Int) (c : zOC) : Bool := (c.2.1.1 W).isSome && (c.2.1.2.1 W).isSome && (c.2.1.2.2 W).isSome
theorem zbs_t (W : Nat → Nat → Int) (e : zX) : (!(zbs W true false e)) = (e W).isSome := by
  unfold zbs
  cases e W <;> rfl
/-- what going along a clause leaves -/
def zGA (σ : zm_S) (B j : Nat) (W : Nat → Nat → Int) (lv : Bool) (c : zOC) (τ : zm_S) : Prop :=
  zGs τ σ ∧ τ.1 23 = nI (B + (j + 1)) ∧ τ.1 47 = nI c.2.2.1 ∧ τ.1 48 = nI (zhd c.1) ∧ (lv = true → τ.1 49 = zb (zall3 W c) ∧ τ.1 50 = zb (decide (c.2.2.2 W = some 1)) ∧ (c.1 ≠ 3 → ∀ v, c.2.1.1 W = some v → τ.2.2 1 0 = zL v) ∧ (c.1 = 0 → (∀ v, c.2.1.2.1 W = some v → τ.2.2 1 1 = zL v) ∧ ∀ v, c.2.1.2.2 W = some v → τ.2.2 1 2 = zL v))
section ZL37
variable {l : Launch} {G : zq_G} {D n m B E : Nat} {σ : zm_S} {ρ : Nat → zq_E} {post : Option Value → Nat → (Nat → zq_E) → Prop} {x w rk cd vl : Nat → Nat} {W : Nat → Nat → Int}
theorem zm_ga_if {τ : zm_S} {en v l3 l4 : Int32} {lv : Bool} {k j : Nat} {T : zX} (hD : 60 ≤ D) (hR : zRun τ B E cd vl true) (hW : zWv l G n τ ρ true W) (hk : k ≤ E) (hT : (cd k ≠ 4 ∧ T = zx_num 1 ∧ j = k) ∨ (cd k = 4 ∧ zSpT cd vl true 9 T (k + 1) j))
    (hp : ∀ fl r, (lv = true → r = decide (T W = some 1)) → post none n (zm_h (zgr (zm_si τ 50 (zb r)) (B + (j + 1)) fl) ρ)) : zq_At l G (zq_rm D 0 0) mX12_goesAlong (zq_QF G post 0 0) 184 [(0, .ref 70), (1, .int en), (2, .int (zb lv)), (3, .int l3), (4, .int l4)] [] n (zm_h (zgr τ (B + k) v) ρ) 0 0 := by
  have hE := hR.2.2.1
  have hg : zm_si (zgr τ (B + k) v) 25 (nI 0) = zg τ (B + k) false := zsi_si _ _ _ _
  -- the end
  have fin : ∀ (b r : Bool), (lv = true → r = decide (T W = some 1)) → zq_At l G (zq_rm D 0 0) mX12_goesAlong (zq_QF G post 0 0) 237 [(0, .ref 70), (1, .int en), (2, .int (zb lv)), (3, .int l3), (4, .int l4)] [] n (zm_h (zgr (zm_si τ 50 (zb r)) (B + j) (zb b)) ρ) 0 0 := by
    intro b r hr
    have hp := hp (zb b) r hr
    refine at_aload_n dX12_goesAlong_237 rfl ?_
    refine at_dup dX12_goesAlong_238 rfl ?_
    refine at_get dX12_goesAlong_239 fl_X12_286 rfl rfl ?_
    rw [zgr_23]
    refine at_iconst dX12_goesAlong_242 (v := nI 1) (by decide) ?_
    refine at_iaddN dX12_goesAlong_243 ?_
    refine at_mput dX12_goesAlong_244 (pl_X12_286 _) (fun _ => ⟨_, rfl⟩) rfl rfl ?_
    rw [zgr_s23, Nat.add_assoc]
    refine at_vret dX12_goesAlong_247 rfl (by omega) (by omega) ?_
    exact hp
  have mid : ∀ (b r : Bool), (lv = true → (r && !b) = decide (T W = some 1)) → zq_At l G (zq_rm D 0 0) mX12_goesAlong (zq_QF G post 0 0) 211 [(0, .ref 70), (1, .int en), (2, .int (zb lv)), (3, .int l3), (4, .int l4)] [.int (zb r), .ref 70] n (zm_h (zg τ (B + j) b) ρ) 0 0 := by
    intro b r hr
    have fin := fin b
    refine at_mput dX12_goesAlong_211 (pl_X12_500 _) (fun _ => ⟨_, rfl⟩) (by cases r <;> rfl) (by cases r <;> rfl) ?_
    rw [show zg τ (B + j) b = zgr τ (B + j) (zb b) from rfl, zgr_i _ _ _ (by decide) (by decide)]
    refine at_aload_n dX12_goesAlong_214 rfl ?_
    refine at_aload_n dX12_goesAlong_215 rfl ?_
    refine at_get dX12_goesAlong_216 fl_X12_500 rfl rfl ?_
    rw [zgr_o _ _ _ (by decide) (by decide), zsi_s]
    refine at_if_eqB (tgt := 233) dX12_goesAlong_219 (by decide) (fun c219 => ?_) (fun c219 => ?_)
    · rw [c219, Bool.false_and] at hr
      have fin := fin false hr
      refine at_iconst dX12_goesAlong_233 (v := nI 0) (by decide) ?_
      refine at_mput dX12_goesAlong_234 (pl_X12_500 _) (fun _ => ⟨_, rfl⟩) rfl rfl ?_
      rw [zgr_i _ _ _ (by decide) (by decide), zsi_si]
      exact fin
    · rw [c219, Bool.true_and] at hr
      refine at_aload_n dX12_goesAlong_222 rfl ?_
      refine at_get dX12_goesAlong_223 fl_X12_296 rfl rfl ?_
      rw [show (zgr (zm_si τ 50 (zb r)) (B + j) (zb b)).1 25 = zb b from zg_25 _ _ _]
      refine at_if_neB (tgt := 233) dX12_goesAlong_226 (by decide) (fun c226 => ?_) (fun c226 => ?_)
      · have c226' := c226
        rw [c226'] at hr
        have fin := fin false hr
        refine at_iconst dX12_goesAlong_233 (v := nI 0) (by decide) ?_
        refine at_mput dX12_goesAlong_234 (pl_X12_500 _) (fun _ => ⟨_, rfl⟩) rfl rfl ?_
        rw [zgr_i _ _ _ (by decide) (by decide), zsi_si]
        exact fin
      · have c226' := c226
        rw [c226'] at hr
        have fin := fin true hr
        refine at_iconst dX12_goesAlong_229 (v := nI 1) (by decide) ?_
        refine at_goto (tgt := 234) dX12_goesAlong_230 (by decide) ?_
        refine at_mput dX12_goesAlong_234 (pl_X12_500 _) (fun _ => ⟨_, rfl⟩) rfl rfl ?_
        rw [zgr_i _ _ _ (by decide) (by decide), zsi_si]
        exact fin
  refine at_aload_n dX12_goesAlong_184 rfl ?_
  refine at_iconst dX12_goesAlong_185 (v := nI 0) (by decide) ?_
  refine at_mput dX12_goesAlong_186 (pl_X12_296 _) (fun _ => ⟨_, rfl⟩) rfl rfl ?_
  rw [hg]
  refine at_aload_n dX12_goesAlong_189 rfl ?_
  refine at_aload_n dX12_goesAlong_190 rfl ?_
  refine at_iconst dX12_goesAlong_191 (v := nI 4) (by decide) ?_
  refine at_callV1 (d := D - 1) dX12_goesAlong_192 mv_X12_310 rfl (Nat.le_of_ble_eq_true rfl) (zq_r0 (by omega) (by omega) (by omega)) ?_
  refine zm_passes0 (by omega) hR (by omega) (by decide) ?_
  refine at_if_eqB (tgt := 206) dX12_goesAlong_195 (by decide) (fun c195 => ?_) (fun c195 => ?_)
  · have c195 := of_decide_eq_false c195
    obtain ⟨-, rfl, rfl⟩ := hT.resolve_right (fun h => c195 h.1)
    rw [if_neg c195]
    have mid := mid false true (fun _ => rfl)
    refine at_iconst dX12_goesAlong_206 (v := nI 1) (by decide) ?_
    refine at_goto (tgt := 211) dX12_goesAlong_207 (by decide) ?_
    exact mid
  · have c195 := of_decide_eq_true c195
    obtain ⟨-, hT⟩ := hT.resolve_left (fun h => h.1 c195)
    rw [if_pos c195]
    refine at_aload_n dX12_goesAlong_198 rfl ?_
    refine at_iload_n dX12_goesAlong_199 rfl ?_
    refine at_callV1 (d := D - 1) dX12_goesAlong_200 mv_X12_349 rfl (Nat.le_of_ble_eq_true rfl) (zq_r0 (by omega) (by omega) (by omega)) ?_
    refine zm_testT hR hW 9 _ (by omega) T (k + 1) j lv false _ hT (fun r hr => ?_)
    have mid := mid (zbs W lv false T) r (fun hl => by
      subst hl
      rw [zbs_t]
      cases h : T W with
      | none => rw [Option.isSome_none, Bool.and_false]; rfl
      | some x =>
        rw [Option.isSome_some, Bool.and_true, hr rfl rfl x h]
        simp)
    refine at_if_eqB (tgt := 210) dX12_goesAlong_203 (by decide) (fun c203 => ?_) (fun c203 => ?_)
    · rw [c203] at mid
      refine at_iconst dX12_goesAlong_210 (v := nI 0) (by decide) ?_
      exact mid
    · rw [c203] at mid
      refine at_iconst dX12_goesAlong_206 (v := nI 1) (by decide) ?_
      refine at_goto (tgt := 211) dX12_goesAlong_207 (by decide) ?_
      exact mid
theorem zm_ga_times {τ : zm_S} {en v l3 l4 : Int32} {lv : Bool} {k k' j t : Nat} {T : zX} (hD : 60 ≤ D) (hR : zRun τ B E cd vl true) (hW : ∀ q, zWv l G n (zm_si τ 47 q) ρ true W) (hk : k ≤ E) (ht : (cd k ≠ 27 ∧ t = 1 ∧ k' = k) ∨ (cd k = 27 ∧ cd (k + 1) = 50 ∧ 1 ≤ vl (k + 1) ∧ vl (k + 1) ≤ 20 ∧ t = vl (k + 1) ∧ k' = k + 2)) (hT : (cd k' ≠ 4 ∧ T = zx_num 1 ∧ j = k') ∨ (cd k' = 4 ∧ zSpT cd vl true 9 T (k' + 1) j))
    (hp : ∀ fl r, (lv = true → r = decide (T W = some 1)) → post none n (zm_h (zgr (zm_si (zm_si τ 47 (nI t)) 50 (zb r)) (B + (j + 1)) fl) ρ)) : zq_At l G (zq_rm D 0 0) mX12_goesAlong (zq_QF G post 0 0) 143 [(0, .ref 70), (1, .int en), (2, .int (zb lv)), (3, .int l3), (4, .int l4)] [] n (zm_h (zgr τ (B + k) v) ρ) 0 0 := by
  have hE := hR.2.2.1
  have hlt : ∀ k, cd k ≠ 0 → k < E := fun k hk => Nat.lt_of_not_le fun g => hk (hR.2.2.2.1 k g)
  have hR1 : ∀ q, zRun (zm_si τ 47 q) B E cd vl true := fun q => zRun_c hR (zsi_o _ (by decide) _) (zsi_o _ (by decide) _) rfl
  refine at_aload_n dX12_goesAlong_143 rfl ?_
  refine at_iconst dX12_goesAlong_144 (v := nI 1) (by decide) ?_
  refine at_mput dX12_goesAlong_145 (pl_X12_497 _) (fun _ => ⟨_, rfl⟩) rfl rfl ?_
  rw [zgr_i _ _ _ (by decide) (by decide)]
  refine at_aload_n dX12_goesAlong_148 rfl ?_
  refine at_bipush dX12_goesAlong_149 (v := nI 27) (by decide) ?_
  refine at_callV1 (d := D - 1) dX12_goesAlong_151 mv_X12_310 rfl (Nat.le_of_ble_eq_true rfl) (zq_r0 (by omega) (by omega) (by omega)) ?_
  refine zm_passes0r (by omega) (hR1 _) (by omega) (by decide) ?_
  refine at_if_eqB (tgt := 184) dX12_goesAlong_154 (by decide) (fun c154 => ?_) (fun c154 => ?_)
  · have c154 := of_decide_eq_false c154
    obtain ⟨-, rfl, rfl⟩ := ht.resolve_right (fun h => c154 h.1)
    rw [if_neg c154]
    have hgo := zm_ga_if (l := l) (G := G) (D := D) (n := n) (ρ := ρ) (post := post) (en := en) (v := v) (l3 := l3) (l4 := l4) (lv := lv) hD (hR1 _) (hW _) hk hT hp
    first | exact hgo | (rw [zgr_s23]; exact hgo)
  · have c154 := of_decide_eq_true c154
    obtain ⟨-, g1, g2, g3, rfl, rfl⟩ := ht.resolve_left (fun h => h.1 c154)
    have hk1 := hlt (k + 1) (by omega)
    have gv := (hR.2.2.2.2.2 (k + 1) hk1).2
    rw [if_pos c154]
    have hgo := zm_ga_if (l := l) (G := G) (D := D) (n := n) (ρ := ρ) (post := post) (en := en) (v := v) (l3 := l3) (l4 := l4) (lv := lv) hD (hR1 (nI (vl (k + 1)))) (hW _) (k := k + 2) (by omega) hT hp
    refine at_aload_n dX12_goesAlong_157 rfl ?_
    refine at_aload_n dX12_goesAlong_158 rfl ?_
    refine at_get dX12_goesAlong_159 fl_X12_42 rfl rfl ?_
    refine at_sipush dX12_goesAlong_162 (v := nI 2884) (by decide) ?_
    refine at_aload_n dX12_goesAlong_165 rfl ?_
    refine at_get dX12_goesAlong_166 fl_X12_286 rfl rfl ?_
    rw [zgr_23]
    refine at_iaddN dX12_goesAlong_169 ?_
    refine at_mald (a := 72) dX12_goesAlong_170 (by decide) (by decide) (by decide) (by decide) rfl rfl (by show _ < 5684; omega) (by decide) ?_
    rw [show (zgr (zm_si τ 47 (nI 1)) (B + (k + 1)) v).2.1 72 (2884 + (B + (k + 1))) = nI (vl (k + 1)) from gv]
    refine at_mput dX12_goesAlong_171 (pl_X12_497 _) (fun _ => ⟨_, rfl⟩) rfl rfl ?_
    rw [zgr_i _ _ _ (by decide) (by decide), zsi_si]
    refine at_aload_n dX12_goesAlong_174 rfl ?_
    refine at_dup dX12_goesAlong_175 rfl ?_
    refine at_get dX12_goesAlong_176 fl_X12_286 rfl rfl ?_
    rw [zgr_23]
    refine at_iconst dX12_goesAlong_179 (v := nI 1) (by decide) ?_
    refine at_iaddN dX12_goesAlong_180 ?_
    refine at_mput dX12_goesAlong_181 (pl_X12_286 _) (fun _ => ⟨_, rfl⟩) rfl rfl ?_
    first | exact hgo | (rw [zgr_s23]; exact hgo)
theorem zm_goesAlong {lv : Bool} {c : zOC} {i j : Nat} (hD : 70 ≤ D) (hB : B + E ≤ 2800) (hc0 : ∀ k, E ≤ k → cd k = 0) (hc1 : ∀ k, cd k < 1000) (hcv : ∀ k, k < E → σ.2.1 72 (84 + (B + k)) = nI (cd k) ∧ σ.2.1 72 (2884 + (B + k)) = nI (vl k)) (hC : zC σ m x w rk) (h19 : zSm (σ.2.1 72 19)) (h28 : zSm (σ.1 28)) (h29 : zSm (σ.1 29)) (h46 : σ.1 46 = nI (B + i)) (hc : zSpO cd vl c i j)
    (hp : ∀ τ, zGA σ B j (zovV σ m x w rk) lv c τ → post none n (zm_h τ ρ)) : zq_Runs l G D 0 0 yX12_goesAlong [.ref 70, .int (nI (B + E)), .int (zb lv)] n (zm_h σ ρ) post := by
  have hR : ∀ τ : zm_S, τ.1 24 = nI (B + E) → τ.1 26 = nI 1 → zGs τ σ → zRun τ B E cd vl true := fun τ a1 a2 a3 => ⟨a1, a2, hB, hc0, hc1, by rw [a3.2]; exact hcv⟩
  have hW : ∀ τ : zm_S, zGs τ σ → zWv l G n τ ρ true (zovV σ m x w rk) := fun τ a3 => by
    rw [← zovV_c a3]
    exact zWv_o (zC_congr hC (by rw [a3.2]) (by rw [a3.2])) (by rw [a3.2]; exact h19) (by rw [a3.1 28 (by omega) (by omega)]; exact h28) (by rw [a3.1 29 (by omega) (by omega)]; exact h29)
  have hlt : ∀ k, cd k ≠ 0 → k < E := fun k hk => Nat.lt_of_not_le fun g => hk (hc0 k g)
  obtain ⟨hd, ⟨e0, e1, e2⟩, tm, T⟩ := c
  obtain ⟨k, k', hs, ht, hT⟩ := hc
  dsimp only at hs ht hT
  have hiE : i < E := hlt i (by rcases hs with ⟨g, -⟩ | ⟨g1, g, -⟩ | ⟨g, -⟩ <;> (try unfold zhd at g) <;> (try split at g) <;> (try split at g) <;> (try split at g) <;> omega)
  have hI := zIn_S (vl := vl) (o := true) hc0 9
  have hkE : k ≤ E := by
    rcases hs with ⟨-, -, a, b, -, -, -, -, g⟩ | ⟨-, -, g, -⟩ | ⟨-, -, rfl, -⟩
    · exact (hI _ _ _ g).2
    · exact (hI _ _ _ g).2
    · omega
  have hch : cd i = zhd hd := by
    rcases hs with ⟨g, rfl, -⟩ | ⟨-, g, -⟩ | ⟨g, rfl, -⟩
    · exact g
    · exact g
    · exact g
  have hc9 := hc1 i
  -- behind the sums
  have fin : ∀ (τ : zm_S) (v l3 l4 : Int32), zGs τ σ → τ.1 24 = nI (B + E) → τ.1 26 = nI 1 → τ.1 48 = nI (cd i) → (lv = true → τ.1 49 = zb (zall3 (zovV σ m x w rk) (hd, (e0, e1, e2), tm, T)) ∧ (hd ≠ 3 → ∀ v, e0 (zovV σ m x w rk) = some v → τ.2.2 1 0 = zL v) ∧ (hd = 0 → (∀ v, e1 (zovV σ m x w rk) = some v → τ.2.2 1 1 = zL v) ∧ ∀ v, e2 (zovV σ m x w rk) = some v → τ.2.2 1 2 = zL v)) → zq_At l G (zq_rm D 0 0) mX12_goesAlong (zq_QF G post 0 0) 143 [(0, .ref 70), (1, .int (nI (B + E))), (2, .int (zb lv)), (3, .int l3), (4, .int l4)] [] n (zm_h (zgr τ (B + k) v) ρ) 0 0 := by
    intro τ v l3 l4 t1 t2 t3 t4 t5
    refine zm_ga_times (by omega) (hR τ t2 t3 t1) (fun q => hW _ (zGs_i (by omega) t1)) hkE ht hT (fun fl r hr => hp _ ⟨zGs_gr (zGs_i (by omega) (zGs_i (by omega) t1)), zgr_23 _ _ _, ?_, ?_, fun hl => ⟨?_, ?_, (t5 hl).2.1, (t5 hl).2.2⟩⟩)
    · rw [zgr_o _ _ _ (by decide) (by decide), zsi_o _ (by decide), zsi_s]
    · rw [zgr_o _ _ _ (by decide) (by decide), zsi_o _ (by decide), zsi_o _ (by decide), t4, hch]
    · rw [zgr_o _ _ _ (by decide) (by decide), zsi_o _ (by decide), zsi_o _ (by decide)]; exact (t5 hl).1
    · rw [zgr_o _ _ _ (by decide) (by decide), zsi_s, hr hl]
  refine zq_enter (cc := cX12_goesAlong) (nL := 5) (ret := none) cw_X12_goesAlong (by decide) rfl (Nat.le_of_ble_eq_true rfl) ?_
  refine at_aload_n dX12_goesAlong_0 rfl ?_
  refine at_iconst dX12_goesAlong_1 (v := nI 1) (by decide) ?_
  refine at_mput dX12_goesAlong_2 (pl_X12_316 _) (fun _ => ⟨_, rfl⟩) rfl rfl ?_
  refine at_aload_n dX12_goesAlong_5 rfl ?_
  refine at_iload_n dX12_goesAlong_6 rfl ?_
  refine at_mput dX12_goesAlong_7 (pl_X12_283 _) (fun _ => ⟨_, rfl⟩) rfl rfl ?_
  refine at_aload_n dX12_goesAlong_10 rfl ?_
  refine at_aload_n dX12_goesAlong_11 rfl ?_
  refine at_get dX12_goesAlong_12 fl_X12_482 rfl rfl ?_
  rw [show (zm_si (zm_si σ 26 (nI 1)) 24 (nI (B + E))).1 46 = nI (B + i) from h46]
  refine at_mput dX12_goesAlong_15 (pl_X12_286 _) (fun _ => ⟨_, rfl⟩) rfl rfl ?_
  rw [zgr_self]
  refine at_aload_n dX12_goesAlong_18 rfl ?_
  refine at_aload_n dX12_goesAlong_19 rfl ?_
  refine at_aload_n dX12_goesAlong_20 rfl ?_
  refine at_get dX12_goesAlong_21 fl_X12_286 rfl rfl ?_
  rw [zgr_23]
  refine at_callV1 (d := D - 1) dX12_goesAlong_24 mv_X12_289 rfl (Nat.le_of_ble_eq_true rfl) (zq_r0 (by omega) (by omega) (by omega)) ?_
  have t1 : zGs (zm_si (zm_si σ 26 (nI 1)) 24 (nI (B + E))) σ := zGs_i (by omega) (zGs_i (by omega) (zGs_r σ))
  refine zm_codeAtr (hR _ (zsi_s _ _ _) rfl t1) (by omega) ?_
  generalize hτ : zm_si (zm_si σ 26 (nI 1)) 24 (nI (B + E)) = τ at *
  have t2 : τ.1 24 = nI (B + E) := by rw [← hτ]; exact zsi_s _ _ _
  have t3 : τ.1 26 = nI 1 := by rw [← hτ]; rfl
  refine at_mput dX12_goesAlong_27 (pl_X12_491 _) (fun _ => ⟨_, rfl⟩) rfl rfl ?_
  rw [zgr_i _ _ _ (by decide) (by decide)]
  refine at_aload_n dX12_goesAlong_30 rfl ?_
  refine at_dup dX12_goesAlong_31 rfl ?_
  refine at_get dX12_goesAlong_32 fl_X12_286 rfl rfl ?_
  rw [zgr_23]
  refine at_iconst dX12_goesAlong_35 (v := nI 1) (by decide) ?_
  refine at_iaddN dX12_goesAlong_36 ?_
  refine at_mput dX12_goesAlong_37 (pl_X12_286 _) (fun _ => ⟨_, rfl⟩) rfl rfl ?_
  rw [zgr_s23]
  refine at_aload_n dX12_goesAlong_40 rfl ?_
  refine at_iconst dX12_goesAlong_41 (v := nI 1) (by decide) ?_
  refine at_mput dX12_goesAlong_42 (pl_X12_494 _) (fun _ => ⟨_, rfl⟩) rfl rfl ?_
  rw [zgr_i _ _ _ (by decide) (by decide)]
  refine at_aload_n dX12_goesAlong_45 rfl ?_
  refine at_get dX12_goesAlong_46 fl_X12_491 rfl rfl ?_
  rw [zgr_o _ _ _ (by decide) (by decide), show (zm_si (zm_si τ 48 (nI (cd i))) 49 (nI 1)).1 48 = nI (cd i) from rfl]
  refine at_bipush dX12_goesAlong_49 (v := nI 26) (by decide) ?_
  refine at_neN (tgt := 58) dX12_goesAlong_51 (by decide) (by omega) (by omega) (fun c51 => ?_) (fun c51 => ?_)
  · refine at_aload_n dX12_goesAlong_58 rfl ?_
    refine at_get dX12_goesAlong_59 fl_X12_491 rfl rfl ?_
    rw [zgr_o _ _ _ (by decide) (by decide), show (zm_si (zm_si τ 48 (nI (cd i))) 49 (nI 1)).1 48 = nI (cd i) from rfl]
    refine at_bipush dX12_goesAlong_62 (v := nI 22) (by decide) ?_
    refine at_neN (tgt := 71) dX12_goesAlong_64 (by decide) (by omega) (by omega) (fun c64 => ?_) (fun c64 => ?_)
    · obtain ⟨g1, g2, s0, g3⟩ := hs.elim (fun h => absurd h.1 c64) (fun h => h.elim id (fun h => absurd h.1 c51))
      obtain ⟨rfl, rfl⟩ : e1 = zx_num 0 ∧ e2 = zx_num 0 := by cases g3; exact ⟨rfl, rfl⟩
      refine at_iconst dX12_goesAlong_71 (v := nI 1) (by decide) ?_
      refine at_istore_n dX12_goesAlong_72 rfl (by decide) ?_
      refine at_iconst dX12_goesAlong_73 (v := nI 0) (by decide) ?_
      refine at_istore dX12_goesAlong_74 (by decide) ?_
      refine zm_ga_sum (s := true) (i := i + 1) (by omega) (hR _ t2 t3 (zGs_i (by omega) (zGs_i (by omega) t1))) (hW _ (zGs_i (by omega) (zGs_i (by omega) t1))) rfl (by decide) (by decide) (by rw [if_pos rfl]; exact s0) (fun fl => ?_)
      have fin := fin (zm_si (zm_sl (zm_si (zm_si τ 48 (nI (cd i))) 49 (nI 1)) 1 0 (zL (zvl (zovV σ m x w rk) lv false e0))) 49 (zb (true && !(zbs (zovV σ m x w rk) lv false e0)))) fl (nI 1) (nI 1) (zGs_i (by omega) (zGs_l (zGs_i (by omega) (zGs_i (by omega) t1)))) t2 t3 rfl (fun hl => by
        subst hl
        refine ⟨?_, fun _ v hv => ?_, fun h => by omega⟩
        · rw [zsi_s, zbs_t]
          unfold zall3 zx_num
          simp
        · show (zm_sl _ 1 0 _).2.2 1 0 = _
          rw [zsl_s, zvl_s hv])
      refine at_iload dX12_goesAlong_76 rfl ?_
      refine at_iload_n dX12_goesAlong_78 rfl ?_
      refine at_geN (tgt := 143) dX12_goesAlong_79 (by decide) (by omega) (by omega) (fun c79 => ?_) (fun c79 => ?_)
      · exact fin
      · omega
    · obtain ⟨-, rfl, a, b, s0, ca, s1, cb, s2⟩ := hs.elim id (fun h => h.elim (fun h => by exfalso; unfold zhd at h; rcases h.1 with e | e <;> rw [e] at h <;> (have := h.2.1; simp at this; omega)) (fun h => absurd h.1 c51))
      refine at_iconst dX12_goesAlong_67 (v := nI 3) (by decide) ?_
      refine at_goto (tgt := 72) dX12_goesAlong_68 (by decide) ?_
      refine at_istore_n dX12_goesAlong_72 rfl (by decide) ?_
      refine at_iconst dX12_goesAlong_73 (v := nI 0) (by decide) ?_
      refine at_istore dX12_goesAlong_74 (by decide) ?_
      have q0 : zGs (zm_si (zm_si τ 48 (nI (cd i))) 49 (nI 1)) σ := zGs_i (by omega) (zGs_i (by omega) t1)
      refine zm_ga_sum (s := true) (i := i + 1) (by omega) (hR _ t2 t3 q0) (hW _ q0) rfl (by decide) (by decide) (by rw [if_pos rfl]; exact s0) (fun fl => ?_)
      have q1 := zGs_i (v := zb (true && !(zbs (zovV σ m x w rk) lv false e0))) (show (23 ≤ 49 ∧ 49 ≤ 26) ∨ (47 ≤ 49 ∧ 49 ≤ 50) by omega) (zGs_l (a := 1) (i := 0) (v := zL (zvl (zovV σ m x w rk) lv false e0)) q0)
      refine zm_ga_sum (s := true && !(zbs (zovV σ m x w rk) lv false e0)) (i := a) (by omega) (hR _ t2 t3 q1) (hW _ q1) (zsi_s _ _ _) (by decide) (by decide) (by rw [if_neg (by decide)]; exact s1) (fun fl => ?_)
      have q2 := zGs_i (v := zb ((true && !(zbs (zovV σ m x w rk) lv false e0)) && !(zbs (zovV σ m x w rk) lv false e1))) (show (23 ≤ 49 ∧ 49 ≤ 26) ∨ (47 ≤ 49 ∧ 49 ≤ 50) by omega) (zGs_l (a := 1) (i := 1) (v := zL (zvl (zovV σ m x w rk) lv false e1)) q1)
      refine zm_ga_sum (s := (true && !(zbs (zovV σ m x w rk) lv false e0)) && !(zbs (zovV σ m x w rk) lv false e1)) (i := b) (by omega) (hR _ t2 t3 q2) (hW _ q2) (zsi_s _ _ _) (by decide) (by decide) (by rw [if_neg (by decide)]; exact s2) (fun fl => ?_)
      have q3 := zGs_i (v := zb (((true && !(zbs (zovV σ m x w rk) lv false e0)) && !(zbs (zovV σ m x w rk) lv false e1)) && !(zbs (zovV σ m x w rk) lv false e2))) (show (23 ≤ 49 ∧ 49 ≤ 26) ∨ (47 ≤ 49 ∧ 49 ≤ 50) by omega) (zGs_l (a := 1) (i := 2) (v := zL (zvl (zovV σ m x w rk) lv false e2)) q2)
      have fin := fin _ fl (nI 3) (nI 3) q3 t2 t3 rfl (fun hl => by
        subst hl
        refine ⟨?_, fun _ v hv => ?_, fun _ => ⟨fun v hv => ?_, fun v hv => ?_⟩⟩
        · rw [zsi_s, zbs_t, zbs_t, zbs_t]
          unfold zall3
          rw [Bool.true_and]
        · show (zm_sl (zm_si (zm_sl (zm_si (zm_sl _ 1 0 _) 49 _) 1 1 _) 49 _) 1 2 _).2.2 1 0 = _
          rw [zsl_o _ _ (by decide)]
          show (zm_sl (zm_si (zm_sl _ 1 0 _) 49 _) 1 1 _).2.2 1 0 = _
          rw [zsl_o _ _ (by decide)]
          show (zm_sl _ 1 0 _).2.2 1 0 = _
          rw [zsl_s, zvl_s hv]
        · show (zm_sl (zm_si (zm_sl (zm_si (zm_sl _ 1 0 _) 49 _) 1 1 _) 49 _) 1 2 _).2.2 1 1 = _
          rw [zsl_o _ _ (by decide)]
          show (zm_sl (zm_si (zm_sl _ 1 0 _) 49 _) 1 1 _).2.2 1 1 = _
          rw [zsl_s, zvl_s hv]
        · show (zm_sl (zm_si (zm_sl (zm_si (zm_sl _ 1 0 _) 49 _) 1 1 _) 49 _) 1 2 _).2.2 1 2 = _
          rw [zsl_s, zvl_s hv])
      refine at_iload dX12_goesAlong_76 rfl ?_
      refine at_iload_n dX12_goesAlong_78 rfl ?_
      refine at_geN (tgt := 143) dX12_goesAlong_79 (by decide) (by omega) (by omega) (fun c79 => ?_) (fun c79 => ?_)
      · exact fin
      · omega
  · obtain ⟨-, rfl, rfl, g⟩ := hs.elim (fun h => by omega) (fun h => h.elim (fun h => by unfold zhd at h; rcases h.1 with e | e <;> rw [e] at h <;> (have := h.2.1; simp at this; omega)) id)
    obtain ⟨rfl, rfl, rfl⟩ : e0 = zx_num 0 ∧ e1 = zx_num 0 ∧ e2 = zx_num 0 := by cases g; exact ⟨rfl, rfl, rfl⟩
    refine at_iconst dX12_goesAlong_54 (v := nI 0) (by decide) ?_
    refine at_goto (tgt := 72) dX12_goesAlong_55 (by decide) ?_
    refine at_istore_n dX12_goesAlong_72 rfl (by decide) ?_
    refine at_iconst dX12_goesAlong_73 (v := nI 0) (by decide) ?_
    refine at_istore dX12_goesAlong_74 (by decide) ?_
    have fin := fin (zm_si (zm_si τ 48 (nI (cd i))) 49 (nI 1)) (τ.1 25) (nI 0) (nI 0) (zGs_i (by omega) (zGs_i (by omega) t1)) t2 t3 rfl (fun _ => ⟨rfl, fun h => absurd rfl h, fun h => by cases h⟩)
    refine at_iload dX12_goesAlong_76 rfl ?_
    refine at_iload_n dX12_goesAlong_78 rfl ?_
    refine at_geN (tgt := 143) dX12_goesAlong_79 (by decide) (by omega) (by omega) (fun c79 => ?_) (fun c79 => ?_)
    · exact fin
    · omega
end ZL37

