/-! ===== the class: the court ===== -/
/-- a text in its cells: so many clauses, the six numbers of each, the code -/
def zTS (ρ : Nat → zq_E) (tx sz N : Nat) (cd : Nat → Nat × Nat) (F : Nat → Nat → Int32) : Prop :=
  ∃ (cl cp : Nat) (g : Nat → Option Nat) (cr : Nat → Nat), zTxc ρ tx cl cp sz ∧ zCp ρ cp N cd ∧ 70 ≤ cl ∧ sz ≤ 12 ∧ ρ cl = .inl (4, 12, .inr (.inr (.inr (.inr g)))) ∧
    ∀ i, i < sz → g i = some (cr i) ∧ 70 ≤ cr i ∧ ρ (cr i) = .inr (1, [.int (F i 0), .int (F i 1), .int (F i 2), .int (F i 3), .int (F i 4), .int (F i 5)])
/-- a law's clause in its numbers -/
def zLcl (cd : Nat → Nat × Nat) (N : Nat) (F : Nat → Int32) (c : zLC) : Prop :=
  (1 ≤ c.1 ∧ c.1 ≤ 3) ∧ F 0 = nI (c.1 + 3) ∧ (c.1 = 3 → c.2.1 = zx_num 1) ∧ (c.1 ≠ 3 → zHas false cd N (F 2) c.2.1) ∧ ((F 5 = -1 ∧ c.2.2 = zx_num 1) ∨ zHas false cd N (F 5) c.2.2)
def zLT (ρ : Nat → zq_E) (tx : Nat) (L : List zLC) : Prop := ∃ (N : Nat) (cd : Nat → Nat × Nat) (F : Nat → Nat → Int32), zTS ρ tx L.length N cd F ∧ ∀ i c, L[i]? = some c → zLcl cd N (F i) c
/-- the law that is asked: none, or one in its cells -/
def zLv (ρ : Nat → zq_E) (v : Value) (Lo : Option (List zLC)) : Prop := (v = .null ∧ Lo = none) ∨ ∃ tx L, v = .ref tx ∧ Lo = some L ∧ zLT ρ tx L
theorem zlaw_app {W : Nat → Nat → Int} {h i : Nat} {t : Int} {L : List zLC} {c : zLC} (hc : L[i]? = some c) : zlaw W h t (L.take (i + 1)) = ztold1 W h (zlaw W h t (L.take i)) c := by
  unfold zlaw
  rw [List.take_add_one, hc, List.foldl_append]
  rfl
theorem zmm_clamp {x : Int} (h : zv9 x) : (if nI 0 < (if zI x < nI 99 then zI x else nI 99) then (if zI x < nI 99 then zI x else nI 99) else nI 0) = zI (zclamp x) := by
  obtain ⟨h1, h2⟩ := h
  have e99 : (zI x < nI 99) ↔ x < 99 := by
    rw [Int32.lt_iff_toInt_lt, zI_toInt (by omega) (by omega), nI_toInt (by decide)]
    omega
  have e0 : (nI 0 < zI x) ↔ 0 < x := by
    rw [Int32.lt_iff_toInt_lt, zI_toInt (by omega) (by omega), nI_toInt (by decide)]
    omega
  unfold zclamp
  by_cases c : x < 99
  · rw [if_pos (e99.mpr c)]
    by_cases d : 0 < x
    · rw [if_pos (e0.mpr d), if_neg (by omega), if_neg (by omega)]
    · rw [if_neg (fun h => d (e0.mp h))]
      by_cases d2 : x < 0
      · rw [if_pos d2]; rfl
      · rw [if_neg d2, if_neg (by omega), show x = 0 by omega]; rfl
  · rw [if_neg (fun h => c (e99.mp h)), if_pos (by decide), if_neg (by omega)]
    by_cases d : 99 < x
    · rw [if_pos d]; rfl
    · rw [if_neg d, show x = 99 by omega]; rfl
theorem zrI_1 {W : Nat → Nat → Int} {e : zX} (hb : zBe W e) (h : zrI (e W) = nI 1) : e W = some 1 := by
  cases ev : e W with
  | none => rw [ev] at h; exact absurd h (by decide)
  | some v =>
    rw [ev] at h
    have h : zI v = zI 1 := h
    rw [(zI_eqI (hb v ev) ⟨by decide, by decide⟩).mp h]
theorem zrI_n {W : Nat → Nat → Int} {e : zX} (hb : zBe W e) (h : zrI (e W) = zBrk) : e W = none := by
  cases ev : e W with
  | none => rfl
  | some v =>
    rw [ev] at h
    exact absurd h (zI_ne_brk (hb v ev))
theorem zrI_s {r : Option Int} (h : zrI r ≠ zBrk) : ∃ v, r = some v := by
  cases r with
  | none => exact absurd rfl h
  | some v => exact ⟨v, rfl⟩
theorem dX3_fillWords_0 : decode cX3_fillWords 0 = .ok (.aload_n 0, 1) := by decide +kernel
theorem dX3_fillWords_1 : decode cX3_fillWords 1 = .ok (.getfield 18, 3) := by decide +kernel
theorem dX3_fillWords_4 : decode cX3_fillWords 4 = .ok (.iconst 0, 1) := by decide +kernel
theorem dX3_fillWords_5 : decode cX3_fillWords 5 = .ok (.iload_n 2, 1) := by decide +kernel
theorem dX3_fillWords_6 : decode cX3_fillWords 6 = .ok (.iastore, 1) := by decide +kernel
theorem dX3_fillWords_7 : decode cX3_fillWords 7 = .ok (.aload_n 0, 1) := by decide +kernel
theorem dX3_fillWords_8 : decode cX3_fillWords 8 = .ok (.getfield 18, 3) := by decide +kernel
theorem dX3_fillWords_11 : decode cX3_fillWords 11 = .ok (.iconst 1, 1) := by decide +kernel
theorem dX3_fillWords_12 : decode cX3_fillWords 12 = .ok (.aload_n 1, 1) := by decide +kernel
theorem dX3_fillWords_13 : decode cX3_fillWords 13 = .ok (.iload_n 2, 1) := by decide +kernel
theorem dX3_fillWords_14 : decode cX3_fillWords 14 = .ok (.invokevirtual 64, 3) := by decide +kernel
theorem dX3_fillWords_17 : decode cX3_fillWords 17 = .ok (.ifCond .eq 12, 3) := by decide +kernel
theorem dX3_fillWords_20 : decode cX3_fillWords 20 = .ok (.aload_n 1, 1) := by decide +kernel
theorem dX3_fillWords_21 : decode cX3_fillWords 21 = .ok (.getfield 68, 3) := by decide +kernel
theorem dX3_fillWords_24 : decode cX3_fillWords 24 = .ok (.iload_n 2, 1) := by decide +kernel
theorem dX3_fillWords_25 : decode cX3_fillWords 25 = .ok (.iaload, 1) := by decide +kernel
theorem dX3_fillWords_26 : decode cX3_fillWords 26 = .ok (.goto 4, 3) := by decide +kernel
theorem dX3_fillWords_29 : decode cX3_fillWords 29 = .ok (.iconst (-1), 1) := by decide +kernel
theorem dX3_fillWords_30 : decode cX3_fillWords 30 = .ok (.iastore, 1) := by decide +kernel
theorem dX3_fillWords_31 : decode cX3_fillWords 31 = .ok (.aload_n 0, 1) := by decide +kernel
theorem dX3_fillWords_32 : decode cX3_fillWords 32 = .ok (.getfield 18, 3) := by decide +kernel
theorem dX3_fillWords_35 : decode cX3_fillWords 35 = .ok (.iconst 2, 1) := by decide +kernel
theorem dX3_fillWords_36 : decode cX3_fillWords 36 = .ok (.aload_n 1, 1) := by decide +kernel
theorem dX3_fillWords_37 : decode cX3_fillWords 37 = .ok (.iload_n 2, 1) := by decide +kernel
theorem dX3_fillWords_38 : decode cX3_fillWords 38 = .ok (.invokevirtual 22, 3) := by decide +kernel
theorem dX3_fillWords_41 : decode cX3_fillWords 41 = .ok (.invokestatic 71, 3) := by decide +kernel
theorem dX3_fillWords_44 : decode cX3_fillWords 44 = .ok (.iastore, 1) := by decide +kernel
theorem dX3_fillWords_45 : decode cX3_fillWords 45 = .ok (.aload_n 0, 1) := by decide +kernel
theorem dX3_fillWords_46 : decode cX3_fillWords 46 = .ok (.getfield 18, 3) := by decide +kernel
theorem dX3_fillWords_49 : decode cX3_fillWords 49 = .ok (.iconst 3, 1) := by decide +kernel
theorem dX3_fillWords_50 : decode cX3_fillWords 50 = .ok (.iload_n 3, 1) := by decide +kernel
theorem dX3_fillWords_51 : decode cX3_fillWords 51 = .ok (.iastore, 1) := by decide +kernel
theorem dX3_fillWords_52 : decode cX3_fillWords 52 = .ok (.aload_n 0, 1) := by decide +kernel
theorem dX3_fillWords_53 : decode cX3_fillWords 53 = .ok (.getfield 18, 3) := by decide +kernel
theorem dX3_fillWords_56 : decode cX3_fillWords 56 = .ok (.iconst 4, 1) := by decide +kernel
theorem dX3_fillWords_57 : decode cX3_fillWords 57 = .ok (.iload 4, 2) := by decide +kernel
theorem dX3_fillWords_59 : decode cX3_fillWords 59 = .ok (.iastore, 1) := by decide +kernel
theorem dX3_fillWords_60 : decode cX3_fillWords 60 = .ok (.aload_n 0, 1) := by decide +kernel
theorem dX3_fillWords_61 : decode cX3_fillWords 61 = .ok (.getfield 18, 3) := by decide +kernel
theorem dX3_fillWords_64 : decode cX3_fillWords 64 = .ok (.iconst 5, 1) := by decide +kernel
theorem dX3_fillWords_65 : decode cX3_fillWords 65 = .ok (.iload 5, 2) := by decide +kernel
theorem dX3_fillWords_67 : decode cX3_fillWords 67 = .ok (.iastore, 1) := by decide +kernel
theorem dX3_fillWords_68 : decode cX3_fillWords 68 = .ok (.aload_n 0, 1) := by decide +kernel
theorem dX3_fillWords_69 : decode cX3_fillWords 69 = .ok (.getfield 18, 3) := by decide +kernel
theorem dX3_fillWords_72 : decode cX3_fillWords 72 = .ok (.bipush 6, 2) := by decide +kernel
theorem dX3_fillWords_74 : decode cX3_fillWords 74 = .ok (.aload_n 1, 1) := by decide +kernel
theorem dX3_fillWords_75 : decode cX3_fillWords 75 = .ok (.getfield 74, 3) := by decide +kernel
theorem dX3_fillWords_78 : decode cX3_fillWords 78 = .ok (.iconst 0, 1) := by decide +kernel
theorem dX3_fillWords_79 : decode cX3_fillWords 79 = .ok (.iaload, 1) := by decide +kernel
theorem dX3_fillWords_80 : decode cX3_fillWords 80 = .ok (.iastore, 1) := by decide +kernel
theorem dX3_fillWords_81 : decode cX3_fillWords 81 = .ok (.aload_n 0, 1) := by decide +kernel
theorem dX3_fillWords_82 : decode cX3_fillWords 82 = .ok (.getfield 18, 3) := by decide +kernel
theorem dX3_fillWords_85 : decode cX3_fillWords 85 = .ok (.bipush 7, 2) := by decide +kernel
theorem dX3_fillWords_87 : decode cX3_fillWords 87 = .ok (.aload_n 1, 1) := by decide +kernel
theorem dX3_fillWords_88 : decode cX3_fillWords 88 = .ok (.getfield 74, 3) := by decide +kernel
theorem dX3_fillWords_91 : decode cX3_fillWords 91 = .ok (.iconst 2, 1) := by decide +kernel
theorem dX3_fillWords_92 : decode cX3_fillWords 92 = .ok (.iaload, 1) := by decide +kernel
theorem dX3_fillWords_93 : decode cX3_fillWords 93 = .ok (.iastore, 1) := by decide +kernel
theorem dX3_fillWords_94 : decode cX3_fillWords 94 = .ok (.return_, 1) := by decide +kernel
abbrev mX3_fillWords : zq_M := (cX3_fillWords, RX3, "fillWords", none, 6)
theorem dX3_lastTold_0 : decode cX3_lastTold 0 = .ok (.aload_n 1, 1) := by decide +kernel
theorem dX3_lastTold_1 : decode cX3_lastTold 1 = .ok (.ifnonnull 5, 3) := by decide +kernel
theorem dX3_lastTold_4 : decode cX3_lastTold 4 = .ok (.iconst 1, 1) := by decide +kernel
theorem dX3_lastTold_5 : decode cX3_lastTold 5 = .ok (.ireturn, 1) := by decide +kernel
theorem dX3_lastTold_6 : decode cX3_lastTold 6 = .ok (.aload_n 1, 1) := by decide +kernel
theorem dX3_lastTold_7 : decode cX3_lastTold 7 = .ok (.getfield 42, 3) := by decide +kernel
theorem dX3_lastTold_10 : decode cX3_lastTold 10 = .ok (.bipush 12, 2) := by decide +kernel
theorem dX3_lastTold_12 : decode cX3_lastTold 12 = .ok (.invokestatic 77, 3) := by decide +kernel
theorem dX3_lastTold_15 : decode cX3_lastTold 15 = .ok (.iconst 1, 1) := by decide +kernel
theorem dX3_lastTold_16 : decode cX3_lastTold 16 = .ok (.isub, 1) := by decide +kernel
theorem dX3_lastTold_17 : decode cX3_lastTold 17 = .ok (.istore_n 3, 1) := by decide +kernel
theorem dX3_lastTold_18 : decode cX3_lastTold 18 = .ok (.iload_n 3, 1) := by decide +kernel
theorem dX3_lastTold_19 : decode cX3_lastTold 19 = .ok (.ifCond .lt 93, 3) := by decide +kernel
theorem dX3_lastTold_22 : decode cX3_lastTold 22 = .ok (.aload_n 1, 1) := by decide +kernel
theorem dX3_lastTold_23 : decode cX3_lastTold 23 = .ok (.getfield 48, 3) := by decide +kernel
theorem dX3_lastTold_26 : decode cX3_lastTold 26 = .ok (.iload_n 3, 1) := by decide +kernel
theorem dX3_lastTold_27 : decode cX3_lastTold 27 = .ok (.aaload, 1) := by decide +kernel
theorem dX3_lastTold_28 : decode cX3_lastTold 28 = .ok (.astore 4, 2) := by decide +kernel
theorem dX3_lastTold_30 : decode cX3_lastTold 30 = .ok (.aload 4, 2) := by decide +kernel
theorem dX3_lastTold_32 : decode cX3_lastTold 32 = .ok (.ifnull 74, 3) := by decide +kernel
theorem dX3_lastTold_35 : decode cX3_lastTold 35 = .ok (.aload 4, 2) := by decide +kernel
theorem dX3_lastTold_37 : decode cX3_lastTold 37 = .ok (.getfield 52, 3) := by decide +kernel
theorem dX3_lastTold_40 : decode cX3_lastTold 40 = .ok (.iload_n 2, 1) := by decide +kernel
theorem dX3_lastTold_41 : decode cX3_lastTold 41 = .ok (.if_icmp .ne 65, 3) := by decide +kernel
theorem dX3_lastTold_44 : decode cX3_lastTold 44 = .ok (.aload_n 0, 1) := by decide +kernel
theorem dX3_lastTold_45 : decode cX3_lastTold 45 = .ok (.getfield 12, 3) := by decide +kernel
theorem dX3_lastTold_48 : decode cX3_lastTold 48 = .ok (.aload_n 1, 1) := by decide +kernel
theorem dX3_lastTold_49 : decode cX3_lastTold 49 = .ok (.aload 4, 2) := by decide +kernel
theorem dX3_lastTold_51 : decode cX3_lastTold 51 = .ok (.getfield 57, 3) := by decide +kernel
theorem dX3_lastTold_54 : decode cX3_lastTold 54 = .ok (.aload_n 0, 1) := by decide +kernel
theorem dX3_lastTold_55 : decode cX3_lastTold 55 = .ok (.getfield 18, 3) := by decide +kernel
theorem dX3_lastTold_58 : decode cX3_lastTold 58 = .ok (.iconst 1, 1) := by decide +kernel
theorem dX3_lastTold_59 : decode cX3_lastTold 59 = .ok (.invokevirtual 60, 3) := by decide +kernel
theorem dX3_lastTold_62 : decode cX3_lastTold 62 = .ok (.iconst 1, 1) := by decide +kernel
theorem dX3_lastTold_63 : decode cX3_lastTold 63 = .ok (.if_icmp .ne 43, 3) := by decide +kernel
theorem dX3_lastTold_66 : decode cX3_lastTold 66 = .ok (.aload_n 0, 1) := by decide +kernel
theorem dX3_lastTold_67 : decode cX3_lastTold 67 = .ok (.getfield 12, 3) := by decide +kernel
theorem dX3_lastTold_70 : decode cX3_lastTold 70 = .ok (.aload_n 1, 1) := by decide +kernel
theorem dX3_lastTold_71 : decode cX3_lastTold 71 = .ok (.aload 4, 2) := by decide +kernel
theorem dX3_lastTold_73 : decode cX3_lastTold 73 = .ok (.getfield 82, 3) := by decide +kernel
theorem dX3_lastTold_76 : decode cX3_lastTold 76 = .ok (.aload_n 0, 1) := by decide +kernel
theorem dX3_lastTold_77 : decode cX3_lastTold 77 = .ok (.getfield 18, 3) := by decide +kernel
theorem dX3_lastTold_80 : decode cX3_lastTold 80 = .ok (.ldc 85, 2) := by decide +kernel
theorem dX3_lastTold_82 : decode cX3_lastTold 82 = .ok (.invokevirtual 60, 3) := by decide +kernel
theorem dX3_lastTold_85 : decode cX3_lastTold 85 = .ok (.istore 5, 2) := by decide +kernel
theorem dX3_lastTold_87 : decode cX3_lastTold 87 = .ok (.iload 5, 2) := by decide +kernel
theorem dX3_lastTold_89 : decode cX3_lastTold 89 = .ok (.ldc 85, 2) := by decide +kernel
theorem dX3_lastTold_91 : decode cX3_lastTold 91 = .ok (.if_icmp .eq 15, 3) := by decide +kernel
theorem dX3_lastTold_94 : decode cX3_lastTold 94 = .ok (.iconst 0, 1) := by decide +kernel
theorem dX3_lastTold_95 : decode cX3_lastTold 95 = .ok (.bipush 99, 2) := by decide +kernel
theorem dX3_lastTold_97 : decode cX3_lastTold 97 = .ok (.iload 5, 2) := by decide +kernel
theorem dX3_lastTold_99 : decode cX3_lastTold 99 = .ok (.invokestatic 77, 3) := by decide +kernel
theorem dX3_lastTold_102 : decode cX3_lastTold 102 = .ok (.invokestatic 86, 3) := by decide +kernel
theorem dX3_lastTold_105 : decode cX3_lastTold 105 = .ok (.ireturn, 1) := by decide +kernel
theorem dX3_lastTold_106 : decode cX3_lastTold 106 = .ok (.iinc 3 (-1), 3) := by decide +kernel
theorem dX3_lastTold_109 : decode cX3_lastTold 109 = .ok (.goto (-91), 3) := by decide +kernel
theorem dX3_lastTold_112 : decode cX3_lastTold 112 = .ok (.iconst 1, 1) := by decide +kernel
theorem dX3_lastTold_113 : decode cX3_lastTold 113 = .ok (.ireturn, 1) := by decide +kernel
abbrev mX3_lastTold : zq_M := (cX3_lastTold, RX3, "lastTold", (some .int), 6)
theorem dX3_isBarred_0 : decode cX3_isBarred 0 = .ok (.aload_n 2, 1) := by decide +kernel
theorem dX3_isBarred_1 : decode cX3_isBarred 1 = .ok (.ifnonnull 5, 3) := by decide +kernel
theorem dX3_isBarred_4 : decode cX3_isBarred 4 = .ok (.iconst 0, 1) := by decide +kernel
theorem dX3_isBarred_5 : decode cX3_isBarred 5 = .ok (.ireturn, 1) := by decide +kernel
theorem dX3_isBarred_6 : decode cX3_isBarred 6 = .ok (.aload_n 0, 1) := by decide +kernel
theorem dX3_isBarred_7 : decode cX3_isBarred 7 = .ok (.aload_n 1, 1) := by decide +kernel
theorem dX3_isBarred_8 : decode cX3_isBarred 8 = .ok (.iload_n 3, 1) := by decide +kernel
theorem dX3_isBarred_9 : decode cX3_isBarred 9 = .ok (.iconst (-1), 1) := by decide +kernel
theorem dX3_isBarred_10 : decode cX3_isBarred 10 = .ok (.iconst (-1), 1) := by decide +kernel
theorem dX3_isBarred_11 : decode cX3_isBarred 11 = .ok (.iconst (-1), 1) := by decide +kernel
theorem dX3_isBarred_12 : decode cX3_isBarred 12 = .ok (.invokevirtual 34, 3) := by decide +kernel
theorem dX3_isBarred_15 : decode cX3_isBarred 15 = .ok (.iconst 0, 1) := by decide +kernel
theorem dX3_isBarred_16 : decode cX3_isBarred 16 = .ok (.istore 4, 2) := by decide +kernel
theorem dX3_isBarred_18 : decode cX3_isBarred 18 = .ok (.iload 4, 2) := by decide +kernel
theorem dX3_isBarred_20 : decode cX3_isBarred 20 = .ok (.aload_n 2, 1) := by decide +kernel
theorem dX3_isBarred_21 : decode cX3_isBarred 21 = .ok (.getfield 42, 3) := by decide +kernel
theorem dX3_isBarred_24 : decode cX3_isBarred 24 = .ok (.if_icmp .ge 64, 3) := by decide +kernel
theorem dX3_isBarred_27 : decode cX3_isBarred 27 = .ok (.iload 4, 2) := by decide +kernel
theorem dX3_isBarred_29 : decode cX3_isBarred 29 = .ok (.bipush 12, 2) := by decide +kernel
theorem dX3_isBarred_31 : decode cX3_isBarred 31 = .ok (.if_icmp .ge 57, 3) := by decide +kernel
theorem dX3_isBarred_34 : decode cX3_isBarred 34 = .ok (.aload_n 2, 1) := by decide +kernel
theorem dX3_isBarred_35 : decode cX3_isBarred 35 = .ok (.getfield 48, 3) := by decide +kernel
theorem dX3_isBarred_38 : decode cX3_isBarred 38 = .ok (.iload 4, 2) := by decide +kernel
theorem dX3_isBarred_40 : decode cX3_isBarred 40 = .ok (.aaload, 1) := by decide +kernel
theorem dX3_isBarred_41 : decode cX3_isBarred 41 = .ok (.astore 5, 2) := by decide +kernel
theorem dX3_isBarred_43 : decode cX3_isBarred 43 = .ok (.aload 5, 2) := by decide +kernel
theorem dX3_isBarred_45 : decode cX3_isBarred 45 = .ok (.ifnull 37, 3) := by decide +kernel
theorem dX3_isBarred_48 : decode cX3_isBarred 48 = .ok (.aload 5, 2) := by decide +kernel
theorem dX3_isBarred_50 : decode cX3_isBarred 50 = .ok (.getfield 52, 3) := by decide +kernel
theorem dX3_isBarred_53 : decode cX3_isBarred 53 = .ok (.bipush 6, 2) := by decide +kernel
theorem dX3_isBarred_55 : decode cX3_isBarred 55 = .ok (.if_icmp .ne 27, 3) := by decide +kernel
theorem dX3_isBarred_58 : decode cX3_isBarred 58 = .ok (.aload_n 0, 1) := by decide +kernel
theorem dX3_isBarred_59 : decode cX3_isBarred 59 = .ok (.getfield 12, 3) := by decide +kernel
theorem dX3_isBarred_62 : decode cX3_isBarred 62 = .ok (.aload_n 2, 1) := by decide +kernel
theorem dX3_isBarred_63 : decode cX3_isBarred 63 = .ok (.aload 5, 2) := by decide +kernel
theorem dX3_isBarred_65 : decode cX3_isBarred 65 = .ok (.getfield 57, 3) := by decide +kernel
theorem dX3_isBarred_68 : decode cX3_isBarred 68 = .ok (.aload_n 0, 1) := by decide +kernel
theorem dX3_isBarred_69 : decode cX3_isBarred 69 = .ok (.getfield 18, 3) := by decide +kernel
theorem dX3_isBarred_72 : decode cX3_isBarred 72 = .ok (.iconst 1, 1) := by decide +kernel
theorem dX3_isBarred_73 : decode cX3_isBarred 73 = .ok (.invokevirtual 60, 3) := by decide +kernel
theorem dX3_isBarred_76 : decode cX3_isBarred 76 = .ok (.iconst 1, 1) := by decide +kernel
theorem dX3_isBarred_77 : decode cX3_isBarred 77 = .ok (.if_icmp .ne 5, 3) := by decide +kernel
theorem dX3_isBarred_80 : decode cX3_isBarred 80 = .ok (.iconst 1, 1) := by decide +kernel
theorem dX3_isBarred_81 : decode cX3_isBarred 81 = .ok (.ireturn, 1) := by decide +kernel
theorem dX3_isBarred_82 : decode cX3_isBarred 82 = .ok (.iinc 4 1, 3) := by decide +kernel
theorem dX3_isBarred_85 : decode cX3_isBarred 85 = .ok (.goto (-67), 3) := by decide +kernel
theorem dX3_isBarred_88 : decode cX3_isBarred 88 = .ok (.iconst 0, 1) := by decide +kernel
theorem dX3_isBarred_89 : decode cX3_isBarred 89 = .ok (.ireturn, 1) := by decide +kernel
abbrev mX3_isBarred : zq_M := (cX3_isBarred, RX3, "isBarred", (some .boolean), 6)
theorem dX3_strokeCost_0 : decode cX3_strokeCost 0 = .ok (.aload_n 0, 1) := by decide +kernel
theorem dX3_strokeCost_1 : decode cX3_strokeCost 1 = .ok (.aload_n 1, 1) := by decide +kernel
theorem dX3_strokeCost_2 : decode cX3_strokeCost 2 = .ok (.iload_n 3, 1) := by decide +kernel
theorem dX3_strokeCost_3 : decode cX3_strokeCost 3 = .ok (.iload 4, 2) := by decide +kernel
theorem dX3_strokeCost_5 : decode cX3_strokeCost 5 = .ok (.aload_n 1, 1) := by decide +kernel
theorem dX3_strokeCost_6 : decode cX3_strokeCost 6 = .ok (.iload_n 3, 1) := by decide +kernel
theorem dX3_strokeCost_7 : decode cX3_strokeCost 7 = .ok (.invokevirtual 22, 3) := by decide +kernel
theorem dX3_strokeCost_10 : decode cX3_strokeCost 10 = .ok (.iload 4, 2) := by decide +kernel
theorem dX3_strokeCost_12 : decode cX3_strokeCost 12 = .ok (.invokestatic 28, 3) := by decide +kernel
theorem dX3_strokeCost_15 : decode cX3_strokeCost 15 = .ok (.iload 5, 2) := by decide +kernel
theorem dX3_strokeCost_17 : decode cX3_strokeCost 17 = .ok (.invokevirtual 34, 3) := by decide +kernel
theorem dX3_strokeCost_20 : decode cX3_strokeCost 20 = .ok (.aload_n 0, 1) := by decide +kernel
theorem dX3_strokeCost_21 : decode cX3_strokeCost 21 = .ok (.aload_n 2, 1) := by decide +kernel
theorem dX3_strokeCost_22 : decode cX3_strokeCost 22 = .ok (.iconst 4, 1) := by decide +kernel
theorem dX3_strokeCost_23 : decode cX3_strokeCost 23 = .ok (.invokevirtual 38, 3) := by decide +kernel
theorem dX3_strokeCost_26 : decode cX3_strokeCost 26 = .ok (.ireturn, 1) := by decide +kernel
abbrev mX3_strokeCost : zq_M := (cX3_strokeCost, RX3, "strokeCost", (some .int), 6)
theorem dX3_stepCost_0 : decode cX3_stepCost 0 = .ok (.aload_n 0, 1) := by decide +kernel
theorem dX3_stepCost_1 : decode cX3_stepCost 1 = .ok (.aload_n 1, 1) := by decide +kernel
theorem dX3_stepCost_2 : decode cX3_stepCost 2 = .ok (.iload_n 3, 1) := by decide +kernel
theorem dX3_stepCost_3 : decode cX3_stepCost 3 = .ok (.iconst (-1), 1) := by decide +kernel
theorem dX3_stepCost_4 : decode cX3_stepCost 4 = .ok (.iconst (-1), 1) := by decide +kernel
theorem dX3_stepCost_5 : decode cX3_stepCost 5 = .ok (.iconst (-1), 1) := by decide +kernel
theorem dX3_stepCost_6 : decode cX3_stepCost 6 = .ok (.invokevirtual 34, 3) := by decide +kernel
theorem dX3_stepCost_9 : decode cX3_stepCost 9 = .ok (.aload_n 0, 1) := by decide +kernel
theorem dX3_stepCost_10 : decode cX3_stepCost 10 = .ok (.aload_n 2, 1) := by decide +kernel
theorem dX3_stepCost_11 : decode cX3_stepCost 11 = .ok (.iconst 5, 1) := by decide +kernel
theorem dX3_stepCost_12 : decode cX3_stepCost 12 = .ok (.invokevirtual 38, 3) := by decide +kernel
theorem dX3_stepCost_15 : decode cX3_stepCost 15 = .ok (.ireturn, 1) := by decide +kernel
abbrev mX3_stepCost : zq_M := (cX3_stepCost, RX3, "stepCost", (some .int), 4)
section ZC13
variable {l : Launch} {G : zq_G} {D n b m : Nat} {κ : zl_S} {ρ : Nat → zq_E} {post : Option Value → Nat → (Nat → zq_E) → Prop} {x w : Nat → Nat} {K : Nat → Int32}
/-- a quay's places, its day and its mood -/
def zQT (κ : zl_S) (b m : Nat) (K : Nat → Int32) : Prop := (∀ p, p < m → κ.2.1 (b + 3) p = zplace K (nI p) m) ∧ κ.2.1 (b + 7) 0 = K 19 ∧ κ.2.1 (b + 7) 2 = K 72 ∧ zSm (K 72) ∧ zSm (K 19)
theorem zc_fillWords {p : Nat} {kk lt yy : Int32} (hD : 2 ≤ D) (hb : zQb b) (hQ : zQN κ b m x w) (hT : zQT κ b m K) (hpm : p < m) (hk : zAk (x p) kk) (hy : zSm yy) (hlt : lt = if kk = -1 then -1 else nI (zlt (x p) kk.toNatClampNeg))
    (hp : ∀ g, zEv false (zlwV K m p (x p) kk yy) g → post none n (zl_h (zl_sA κ 55 g) ρ)) : zq_Runs l G D 0 0 yX3_fillWords [.ref 52, .ref b, .int (nI p), .int kk, .int lt, .int yy] n (zl_h κ ρ) post := by
  obtain ⟨hm, hm7, hx, -⟩ := id hQ
  obtain ⟨hxp, hv⟩ := hx p hpm
  obtain ⟨t1, t2, t3, t4, t5⟩ := hT
  have bo : b + 3 ≠ 55 ∧ b + 7 ≠ 55 ∧ b + 1 ≠ 55 ∧ b + 2 ≠ 55 := by rcases hb with rfl | rfl | rfl <;> decide
  have hQ' : ∀ g, zQN (zl_sA κ 55 g) b m x w := fun g => ⟨hm, hm7, fun q hq => by rw [zlA_o _ bo.2.2.1]; exact hx q hq, fun k hk => by rw [zlA_o _ bo.2.2.2]; exact hQ.2.2.2 k hk⟩
  have fin : ∀ g : Nat → Int32, g 0 = nI p → g 1 = zplace K (nI p) m → g 2 = nI (zlen (x p)) → g 3 = kk → g 4 = lt → g 5 = yy → g 6 = K 19 → g 7 = K 72 → zEv false (zlwV K m p (x p) kk yy) g := by
    intro g g0 g1 g2 g3 g4 g5 g6 g7 c k hc
    refine ⟨?_, zlwV_b hm7 (by omega) hk hy t4 t5 c k⟩
    rcases hc with ⟨-, c1, c2, rfl⟩ | ⟨h, -⟩
    · unfold zlwV zlwE
      rw [if_pos ⟨c1, c2⟩]
      rcases (show c = 8 ∨ c = 9 ∨ c = 10 ∨ c = 11 ∨ c = 12 ∨ c = 13 ∨ c = 14 ∨ c = 15 by omega) with rfl | rfl | rfl | rfl | rfl | rfl | rfl | rfl
      · show _ = (g 0).toInt; rw [g0]; rfl
      · show _ = (g 1).toInt; rw [g1]; rfl
      · show _ = (g 2).toInt; rw [g2]; rfl
      · show _ = (g 3).toInt; rw [g3]; rfl
      · show _ = (g 4).toInt; rw [g4, hlt]; rfl
      · show _ = (g 5).toInt; rw [g5]; rfl
      · show _ = (g 7).toInt; rw [g7]; rfl
      · show _ = (g 6).toInt; rw [g6]; rfl
    · cases h
  have hp : ∀ g : Nat → Int32, g 0 = nI p → g 1 = zplace K (nI p) m → g 2 = nI (zlen (x p)) → g 3 = kk → g 4 = lt → g 5 = yy → g 6 = K 19 → g 7 = K 72 → post none n (zl_h (zl_sA κ 55 g) ρ) := fun g g0 g1 g2 g3 g4 g5 g6 g7 => hp g (fin g g0 g1 g2 g3 g4 g5 g6 g7)
  have hix : zix m (nI p) = true := by rw [zix_n (by omega)]; exact decide_eq_true hpm
  refine zq_enter (cc := cX3_fillWords) (nL := 6) (ret := none) cw_X3_fillWords (by decide) rfl (Nat.le_of_ble_eq_true rfl) ?_
  refine at_aload_n dX3_fillWords_0 rfl ?_
  refine at_get dX3_fillWords_1 fl_X3_18 (zl_o rfl) rfl ?_
  refine at_iconst dX3_fillWords_4 (v := nI 0) (by decide) ?_
  refine at_iload_n dX3_fillWords_5 rfl ?_
  refine at_last2 (a := 55) dX3_fillWords_6 rfl rfl (by show _ < 8; omega) (by decide) ?_
  rw [show zl_sa κ 55 0 (nI p) = zl_sA κ 55 (upd (κ.2.1 55) 0 (nI p)) from rfl]
  refine at_aload_n dX3_fillWords_7 rfl ?_
  refine at_get dX3_fillWords_8 fl_X3_18 (zl_o rfl) rfl ?_
  refine at_iconst dX3_fillWords_11 (v := nI 1) (by decide) ?_
  refine at_aload_n dX3_fillWords_12 rfl ?_
  refine at_iload_n dX3_fillWords_13 rfl ?_
  refine at_callV1 (d := D - 1) dX3_fillWords_14 mv_X3_64 (zl_q hb) (Nat.le_of_ble_eq_true rfl) (zq_r0 (by omega) (by omega) (by omega)) ?_
  refine zc_has hb hm hm7 ?_
  rw [hix]
  refine at_if_eqB (tgt := 29) dX3_fillWords_17 (by decide) (fun c17 => ?_) (fun c17 => ?_)
  · exact absurd c17 (by decide)
  · refine at_aload_n dX3_fillWords_20 rfl ?_
    refine at_get dX3_fillWords_21 fl_X3_68 (zl_q hb) rfl ?_
    refine at_iload_n dX3_fillWords_24 rfl ?_
    refine at_uld (b := b) (c := 3) dX3_fillWords_25 hb (by decide) (by decide) rfl (by show _ < 7; omega) ?_
    refine at_goto (tgt := 30) dX3_fillWords_26 (by decide) ?_
    refine at_last2 (a := 55) dX3_fillWords_30 rfl rfl (by show _ < 8; omega) (by decide) ?_
    rw [zlA_a, zlA_o _ bo.1, t1 p hpm]
    refine at_aload_n dX3_fillWords_31 rfl ?_
    refine at_get dX3_fillWords_32 fl_X3_18 (zl_o rfl) rfl ?_
    refine at_iconst dX3_fillWords_35 (v := nI 2) (by decide) ?_
    refine at_aload_n dX3_fillWords_36 rfl ?_
    refine at_iload_n dX3_fillWords_37 rfl ?_
    refine at_callV1 (d := D - 1) dX3_fillWords_38 mv_X3_22 (zl_q hb) (Nat.le_of_ble_eq_true rfl) (zq_r0 (by omega) (by omega) (by omega)) ?_
    refine zc_nameOf (by omega) hb (hQ' _) hpm ?_
    refine at_callS1 (d := D - 1) dX3_fillWords_41 ms_X3_71 (Nat.le_of_ble_eq_true rfl) (zq_r0 (by omega) (by omega) (by omega)) ?_
    refine zc_lengthOf (by have := hv.2.1; omega) ?_
    refine at_last2 (a := 55) dX3_fillWords_44 rfl rfl (by show _ < 8; omega) (by decide) ?_
    rw [zlA_a]
    refine at_aload_n dX3_fillWords_45 rfl ?_
    refine at_get dX3_fillWords_46 fl_X3_18 (zl_o rfl) rfl ?_
    refine at_iconst dX3_fillWords_49 (v := nI 3) (by decide) ?_
    refine at_iload_n dX3_fillWords_50 rfl ?_
    refine at_last2 (a := 55) dX3_fillWords_51 rfl rfl (by show _ < 8; omega) (by decide) ?_
    rw [zlA_a]
    refine at_aload_n dX3_fillWords_52 rfl ?_
    refine at_get dX3_fillWords_53 fl_X3_18 (zl_o rfl) rfl ?_
    refine at_iconst dX3_fillWords_56 (v := nI 4) (by decide) ?_
    refine at_iload dX3_fillWords_57 rfl ?_
    refine at_last2 (a := 55) dX3_fillWords_59 rfl rfl (by show _ < 8; omega) (by decide) ?_
    rw [zlA_a]
    refine at_aload_n dX3_fillWords_60 rfl ?_
    refine at_get dX3_fillWords_61 fl_X3_18 (zl_o rfl) rfl ?_
    refine at_iconst dX3_fillWords_64 (v := nI 5) (by decide) ?_
    refine at_iload dX3_fillWords_65 rfl ?_
    refine at_last2 (a := 55) dX3_fillWords_67 rfl rfl (by show _ < 8; omega) (by decide) ?_
    rw [zlA_a]
    refine at_aload_n dX3_fillWords_68 rfl ?_
    refine at_get dX3_fillWords_69 fl_X3_18 (zl_o rfl) rfl ?_
    refine at_bipush dX3_fillWords_72 (v := nI 6) (by decide) ?_
    refine at_aload_n dX3_fillWords_74 rfl ?_
    refine at_get dX3_fillWords_75 fl_X3_74 (zl_q hb) rfl ?_
    refine at_iconst dX3_fillWords_78 (v := nI 0) (by decide) ?_
    refine at_uld (b := b) (c := 7) dX3_fillWords_79 hb (by decide) (by decide) rfl (by show _ < 3; omega) ?_
    refine at_last2 (a := 55) dX3_fillWords_80 rfl rfl (by show _ < 8; omega) (by decide) ?_
    rw [zlA_a, zlA_o _ bo.2.1, t2]
    refine at_aload_n dX3_fillWords_81 rfl ?_
    refine at_get dX3_fillWords_82 fl_X3_18 (zl_o rfl) rfl ?_
    refine at_bipush dX3_fillWords_85 (v := nI 7) (by decide) ?_
    refine at_aload_n dX3_fillWords_87 rfl ?_
    refine at_get dX3_fillWords_88 fl_X3_74 (zl_q hb) rfl ?_
    refine at_iconst dX3_fillWords_91 (v := nI 2) (by decide) ?_
    refine at_uld (b := b) (c := 7) dX3_fillWords_92 hb (by decide) (by decide) rfl (by show _ < 3; omega) ?_
    refine at_last2 (a := 55) dX3_fillWords_93 rfl rfl (by show _ < 8; omega) (by decide) ?_
    rw [zlA_a, zlA_o _ bo.2.1, t3]
    refine at_vret dX3_fillWords_94 rfl (by omega) (by omega) ?_
    exact hp _ rfl rfl rfl rfl rfl rfl rfl rfl
theorem zc_lastTold_loop {tx N h cl cp : Nat} {L : List zLC} {cd : Nat → Nat × Nat} {F : Nat → Nat → Int32} {g : Nat → Option Nat} {cr : Nat → Nat} {W : Nat → Nat → Int} (hD : 3 ≤ D) (hT : zTxc ρ tx cl cp L.length) (hcp : zCp ρ cp N cd) (hcl : 70 ≤ cl) (hL : L.length ≤ 12) (hg : ρ cl = .inl (4, 12, .inr (.inr (.inr (.inr g)))))
    (hF : ∀ i, i < L.length → g i = some (cr i) ∧ 70 ≤ cr i ∧ ρ (cr i) = .inr (1, [.int (F i 0), .int (F i 1), .int (F i 2), .int (F i 3), .int (F i 4), .int (F i 5)])) (hC : ∀ i c, L[i]? = some c → zLcl cd N (F i) c) (hE : zEv false W (κ.2.1 55)) (h3 : h = 1 ∨ h = 2) :
    ∀ i, i ≤ L.length → (∀ a, post (some (.int (zI (zlaw W h 1 (L.take i))))) n (zl_h (zl_sA κ 54 a) ρ)) → ∀ a, zq_At l G (zq_rm D 0 0) mX3_lastTold (zq_QF G post 0 0) 18 [(0, .ref 52), (1, .ref tx), (2, .int (nI (h + 3))), (3, .int (nI i - 1))] [] n (zl_h (zl_sA κ 54 a) ρ) 0 0 := by
  have hcx : ∀ a, zl_h (zl_sA κ 54 a) ρ cl = .inl (4, 12, .inr (.inr (.inr (.inr g)))) := fun a => (zl_hi _ ρ (Or.inr hcl)).trans hg
  have htx : ∀ a, zl_h (zl_sA κ 54 a) ρ tx = .inr (10, [.ref cl, .int (nI L.length), .ref cp]) := fun a => (zl_hi _ ρ (Or.inr hT.1)).trans hT.2
  have hEx : ∀ a, zEv false W ((zl_sA κ 54 a).2.1 55) := fun a => by rw [zlA_o _ (by decide)]; exact hE
  intro i
  induction i with
  | zero =>
    intro hi hp a
    have hp := hp a
    refine at_iload_n dX3_lastTold_18 rfl ?_
    refine at_if_lt (tgt := 112) dX3_lastTold_19 (by decide) (fun c19 => ?_) (fun c19 => ?_)
    · refine at_iconst dX3_lastTold_112 (v := nI 1) (by decide) ?_
      refine at_iret dX3_lastTold_113 rfl (by omega) (by omega) ?_
      exact hp
    · exact absurd c19 (by decide)
  | succ i ih =>
    intro hi hp a
    obtain ⟨f1, f2, f3⟩ := hF i (by omega)
    have hfx : ∀ a, zl_h (zl_sA κ 54 a) ρ (cr i) = .inr (1, [.int (F i 0), .int (F i 1), .int (F i 2), .int (F i 3), .int (F i 4), .int (F i 5)]) := fun a => (zl_hi _ ρ (Or.inr f2)).trans f3
    obtain ⟨c, hc⟩ : ∃ c, L[i]? = some c := ⟨L[i], List.getElem?_eq_getElem (by omega)⟩
    obtain ⟨⟨q1, q1'⟩, q2, q3, q4, q5⟩ := hC i c hc
    rw [zlaw_app hc] at hp
    unfold ztold1 at hp
    have hn : ¬ (c.1 = h ∧ c.2.2 W = some 1) ∨ c.2.1 W = none → ∀ a ex, zq_pick ([(0, .ref 52), (1, .ref tx), (2, .int (nI (h + 3))), (3, .int (nI i))] ++ ex) [0, 1, 2, 3] = [(0, .ref 52), (1, .ref tx), (2, .int (nI (h + 3))), (3, .int (nI i))] → zq_At l G (zq_rm D 0 0) mX3_lastTold (zq_QF G post 0 0) 106 ([(0, .ref 52), (1, .ref tx), (2, .int (nI (h + 3))), (3, .int (nI i))] ++ ex) [] n (zl_h (zl_sA κ 54 a) ρ) 0 0 := by
      intro ho a ex hex
      have hp : ∀ a, post (some (.int (zI (zlaw W h 1 (L.take i))))) n (zl_h (zl_sA κ 54 a) ρ) := by
        rcases ho with ho | ho
        · rw [if_neg ho] at hp; exact hp
        · rw [ho] at hp
          by_cases cc : c.1 = h ∧ c.2.2 W = some 1
          · rw [if_pos cc] at hp; exact hp
          · rw [if_neg cc] at hp; exact hp
      have hn := ih (by omega) hp a
      refine at_lv [0, 1, 2, 3] ?_
      rw [hex]
      refine at_iinc dX3_lastTold_106 rfl rfl (by decide) ?_
      rw [show nI i + Int32.ofInt (-1) = nI i - 1 from (by rw [Int32.sub_eq_add_neg]; rfl)]
      refine at_goto (tgt := 18) dX3_lastTold_109 (by decide) ?_
      exact hn
    rw [nI_pred]
    have hti : ∀ r, c.2.2 W = r → (F i 5 = -1 ∧ zrI r = 1) ∨ ∃ e, zHas false cd N (F i 5) e ∧ e W = r ∧ zrI r = zrI r := by
      intro r hr
      rcases q5 with ⟨t1, t2⟩ | t
      · refine Or.inl ⟨t1, ?_⟩
        rw [← hr, t2]; rfl
      · exact Or.inr ⟨_, t, hr, rfl⟩
    have htb : zBe W c.2.2 := by
      rcases q5 with ⟨t1, t2⟩ | t
      · rw [t2]; intro y hy; have : (1 : Int) = y := Option.some.inj hy; omega
      · obtain ⟨code, z1, z2, z3, z4⟩ := hcp
        exact (zHas_v z3 t hE).1
    refine at_iload_n dX3_lastTold_18 rfl ?_
    refine at_if_ltN (tgt := 112) dX3_lastTold_19 (by decide) (by omega) (fun c19 => ?_) (fun c19 => ?_)
    · exact c19.elim
    · refine at_aload_n dX3_lastTold_22 rfl ?_
      refine at_get dX3_lastTold_23 fl_X3_48 (htx a) rfl ?_
      refine at_iload_n dX3_lastTold_26 rfl ?_
      refine at_aaldN (j := i) dX3_lastTold_27 (hcx a) (by decide) (fun _ => rfl) (by decide) rfl (by omega) ?_
      rw [f1, show va_rf (some (cr i)) = Value.ref (cr i) from rfl]
      refine at_astore dX3_lastTold_28 (by decide) ?_
      refine at_aload dX3_lastTold_30 rfl ?_
      refine at_ifnull dX3_lastTold_32 ?_
      refine at_aload dX3_lastTold_35 rfl ?_
      refine at_get dX3_lastTold_37 fl_X3_52 (hfx a) rfl ?_
      rw [q2]
      refine at_iload_n dX3_lastTold_40 rfl ?_
      refine at_neN (tgt := 106) dX3_lastTold_41 (by decide) (by omega) (by omega) (fun c41 => ?_) (fun c41 => ?_)
      · exact hn (Or.inl (fun e => c41 (by omega))) _ [(4, .ref (cr i))] rfl
      · have hch : c.1 = h := by omega
        refine at_aload_n dX3_lastTold_44 rfl ?_
        refine at_get dX3_lastTold_45 fl_X3_12 (zl_o rfl) rfl ?_
        refine at_aload_n dX3_lastTold_48 rfl ?_
        refine at_aload dX3_lastTold_49 rfl ?_
        refine at_get dX3_lastTold_51 fl_X3_57 (hfx a) rfl ?_
        refine at_aload_n dX3_lastTold_54 rfl ?_
        refine at_get dX3_lastTold_55 fl_X3_18 (zl_o rfl) rfl ?_
        refine at_iconst dX3_lastTold_58 (v := nI 1) (by decide) ?_
        refine at_callV4 (d := D - 1) dX3_lastTold_59 mv_X3_60 (zl_o rfl) (Nat.le_of_ble_eq_true rfl) (zq_r0 (by omega) (by omega) (by omega)) ?_
        refine zc_reckon (by omega) hT hcp rfl (by decide) rfl (hEx a) (c.2.2 W) (zrI (c.2.2 W)) (by rcases hti _ rfl with ⟨t1, t2⟩ | t; exact Or.inl ⟨t1, t2⟩; exact Or.inr t) (fun a' => ?_)
        rw [zlA_A]
        refine at_iconst dX3_lastTold_62 (v := nI 1) (by decide) ?_
        refine at_icmp_ne (tgt := 106) dX3_lastTold_63 (by decide) (fun c63 => ?_) (fun c63 => ?_)
        · exact hn (Or.inl (fun e => c63 (by rw [e.2]; rfl))) _ [(4, .ref (cr i))] rfl
        · have ht1 : c.2.2 W = some 1 := zrI_1 htb c63
          have hq := q4 (by omega)
          have hvb : zBe W c.2.1 := (by
            obtain ⟨code, z1, z2, z3, z4⟩ := hcp
            exact (zHas_v z3 hq hE).1)
          rw [if_pos ⟨hch, ht1⟩] at hp
          refine at_aload_n dX3_lastTold_66 rfl ?_
          refine at_get dX3_lastTold_67 fl_X3_12 (zl_o rfl) rfl ?_
          refine at_aload_n dX3_lastTold_70 rfl ?_
          refine at_aload dX3_lastTold_71 rfl ?_
          refine at_get dX3_lastTold_73 fl_X3_82 (hfx _) rfl ?_
          refine at_aload_n dX3_lastTold_76 rfl ?_
          refine at_get dX3_lastTold_77 fl_X3_18 (zl_o rfl) rfl ?_
          refine at_ldc dX3_lastTold_80 (v := -2000000000) kc_X3_85 ?_
          refine at_callV4 (d := D - 1) dX3_lastTold_82 mv_X3_60 (zl_o rfl) (Nat.le_of_ble_eq_true rfl) (zq_r0 (by omega) (by omega) (by omega)) ?_
          refine zc_reckon (by omega) hT hcp rfl (by decide) rfl (hEx _) (c.2.1 W) (zrI (c.2.1 W)) (Or.inr ⟨_, hq, rfl, rfl⟩) (fun a2 => ?_)
          rw [zlA_A]
          refine at_istore dX3_lastTold_85 (by decide) ?_
          refine at_iload dX3_lastTold_87 rfl ?_
          refine at_ldc dX3_lastTold_89 (v := -2000000000) kc_X3_85 ?_
          refine at_icmp_eq (tgt := 106) dX3_lastTold_91 (by decide) (fun c91 => ?_) (fun c91 => ?_)
          · have c91 : c.2.1 W = none := zrI_n hvb c91
            exact hn (Or.inr c91) _ [(4, .ref (cr i)), (5, .int (zrI (c.2.1 W)))] rfl
          · obtain ⟨v, hv⟩ : ∃ v, c.2.1 W = some v := zrI_s c91
            rw [hv] at hp
            rw [hv]
            have hp := hp a2
            refine at_iconst dX3_lastTold_94 (v := nI 0) (by decide) ?_
            refine at_bipush dX3_lastTold_95 (v := nI 99) (by decide) ?_
            refine at_iload dX3_lastTold_97 rfl ?_
            refine at_mmin dX3_lastTold_99 (ms_X3_77.1.resolve_right (by decide)) (Nat.le_of_ble_eq_true rfl) ⟨by show 1 ≤ D; omega, by show 21 ≤ 60 * D; omega, by omega, by omega⟩ ?_
            refine at_mmax dX3_lastTold_102 (ms_X3_86.1.resolve_right (by decide)) (Nat.le_of_ble_eq_true rfl) ⟨by show 1 ≤ D; omega, by show 21 ≤ 60 * D; omega, by omega, by omega⟩ ?_
            rw [show zrI (some v) = zI v from rfl, zmm_clamp (hvb v hv)]
            refine at_iret dX3_lastTold_105 rfl (by omega) (by omega) ?_
            exact hp
theorem zc_lastTold {h : Nat} {v : Value} {Lo : Option (List zLC)} {W : Nat → Nat → Int} (hD : 3 ≤ D) (hV : zLv ρ v Lo) (hE : zEv false W (κ.2.1 55)) (h3 : h = 1 ∨ h = 2)
    (hp : ∀ a, post (some (.int (zI (ztell W h 1 Lo)))) n (zl_h (zl_sA κ 54 a) ρ)) : zq_Runs l G D 0 0 yX3_lastTold [.ref 52, v, .int (nI (h + 3))] n (zl_h κ ρ) post := by
  rcases hV with ⟨rfl, rfl⟩ | ⟨tx, L, rfl, rfl, N, cd, F, ⟨cl, cp, g, cr, a1, a2, a3, a4, a5, a6⟩, hC⟩
  · refine zq_enter (cc := cX3_lastTold) (nL := 6) (ret := (some .int)) cw_X3_lastTold (by decide) rfl (Nat.le_of_ble_eq_true rfl) ?_
    have hp := hp (κ.2.1 54)
    rw [zlA_0] at hp
    refine at_aload_nN dX3_lastTold_0 rfl ?_
    refine at_ifnonnullN dX3_lastTold_1 ?_
    refine at_iconst dX3_lastTold_4 (v := nI 1) (by decide) ?_
    refine at_iret dX3_lastTold_5 rfl (by omega) (by omega) ?_
    exact hp
  · have hn := zc_lastTold_loop (l := l) (G := G) (n := n) (post := post) hD a1 a2 a3 a4 a5 a6 hC hE h3 L.length (Nat.le_refl _) (by rw [List.take_length]; exact hp) (κ.2.1 54)
    rw [zlA_0] at hn
    have htx : zl_h κ ρ tx = .inr (10, [.ref cl, .int (nI L.length), .ref cp]) := (zl_hi κ ρ (Or.inr a1.1)).trans a1.2
    have mn : (if nI 12 < nI L.length then nI 12 else nI L.length) = nI L.length := if_neg (fun h => by have := (zn_lt (by decide) (by omega)).mp h; omega)
    refine zq_enter (cc := cX3_lastTold) (nL := 6) (ret := (some .int)) cw_X3_lastTold (by decide) rfl (Nat.le_of_ble_eq_true rfl) ?_
    refine at_aload_n dX3_lastTold_0 rfl ?_
    refine at_ifnonnull (tgt := 6) dX3_lastTold_1 (by decide) ?_
    refine at_aload_n dX3_lastTold_6 rfl ?_
    refine at_get dX3_lastTold_7 fl_X3_42 htx rfl ?_
    refine at_bipush dX3_lastTold_10 (v := nI 12) (by decide) ?_
    refine at_mmin dX3_lastTold_12 (ms_X3_77.1.resolve_right (by decide)) (Nat.le_of_ble_eq_true rfl) ⟨by show 1 ≤ D; omega, by show 21 ≤ 60 * D; omega, by omega, by omega⟩ ?_
    rw [mn]
    refine at_iconst dX3_lastTold_15 (v := nI 1) (by decide) ?_
    refine at_isub dX3_lastTold_16 ?_
    refine at_istore_n dX3_lastTold_17 rfl (by decide) ?_
    exact hn
theorem zlaw_1 {W : Nat → Nat → Int} : ∀ (L : List zLC), (∀ (i : Nat) (c : zLC), L[i]? = some c → c.1 = 3 → c.2.1 = zx_num 1) → zlaw W 3 1 L = 1
  | [], _ => rfl
  | c :: cs, h => by
    have h0 := h 0 c rfl
    have ih := zlaw_1 (W := W) cs (fun i c' hc => h (i + 1) c' hc)
    show zlaw W 3 (ztold1 W 3 1 c) cs = 1
    have : ztold1 W 3 1 c = 1 := by
      unfold ztold1
      split
      · next e => rw [h0 e.1]; rfl
      · rfl
    rw [this]; exact ih
theorem zlaw_split {W : Nat → Nat → Int} {h i : Nat} {t : Int} {L : List zLC} : zlaw W h t L = zlaw W h (zlaw W h t (L.take i)) (L.drop i) := by
  unfold zlaw
  rw [← List.foldl_append, List.take_append_drop]
theorem zc_barred_loop {tx N cl cp p : Nat} {L : List zLC} {cd : Nat → Nat × Nat} {F : Nat → Nat → Int32} {g : Nat → Option Nat} {cr : Nat → Nat} {W : Nat → Nat → Int} (hD : 3 ≤ D) (hT : zTxc ρ tx cl cp L.length) (hcp : zCp ρ cp N cd) (hcl : 70 ≤ cl) (hL : L.length ≤ 12) (hg : ρ cl = .inl (4, 12, .inr (.inr (.inr (.inr g)))))
    (hF : ∀ i, i < L.length → g i = some (cr i) ∧ 70 ≤ cr i ∧ ρ (cr i) = .inr (1, [.int (F i 0), .int (F i 1), .int (F i 2), .int (F i 3), .int (F i 4), .int (F i 5)])) (hC : ∀ i c, L[i]? = some c → zLcl cd N (F i) c) (hE : zEv false W (κ.2.1 55)) (hp : ∀ a, post (some (.int (zb (decide (zlaw W 3 0 L = 1))))) n (zl_h (zl_sA κ 54 a) ρ)) :
    ∀ k i, i + k = L.length → zlaw W 3 0 (L.take i) = 0 → ∀ a, zq_At l G (zq_rm D 0 0) mX3_isBarred (zq_QF G post 0 0) 18 [(0, .ref 52), (1, .ref b), (2, .ref tx), (3, .int (nI p)), (4, .int (nI i))] [] n (zl_h (zl_sA κ 54 a) ρ) 0 0 := by
  have hcx : ∀ a, zl_h (zl_sA κ 54 a) ρ cl = .inl (4, 12, .inr (.inr (.inr (.inr g)))) := fun a => (zl_hi _ ρ (Or.inr hcl)).trans hg
  have htx : ∀ a, zl_h (zl_sA κ 54 a) ρ tx = .inr (10, [.ref cl, .int (nI L.length), .ref cp]) := fun a => (zl_hi _ ρ (Or.inr hT.1)).trans hT.2
  have hEx : ∀ a, zEv false W ((zl_sA κ 54 a).2.1 55) := fun a => by rw [zlA_o _ (by decide)]; exact hE
  intro k
  induction k with
  | zero =>
    intro i hi h0 a
    obtain rfl : i = L.length := hi
    rw [List.take_length] at h0
    have hp := hp a
    rw [h0] at hp
    refine at_iload dX3_isBarred_18 rfl ?_
    refine at_aload_n dX3_isBarred_20 rfl ?_
    refine at_get dX3_isBarred_21 fl_X3_42 (htx a) rfl ?_
    refine at_geN (tgt := 88) dX3_isBarred_24 (by decide) (by omega) (by omega) (fun c24 => ?_) (fun c24 => ?_)
    · refine at_iconst dX3_isBarred_88 (v := nI 0) (by decide) ?_
      refine at_zret dX3_isBarred_89 rfl (by omega) (by omega) (by first | exact Or.inl rfl | exact Or.inr rfl | assumption) ?_
      exact hp
    · omega
  | succ k ih =>
    intro i hi h0 a
    obtain ⟨f1, f2, f3⟩ := hF i (by omega)
    have hfx : ∀ a, zl_h (zl_sA κ 54 a) ρ (cr i) = .inr (1, [.int (F i 0), .int (F i 1), .int (F i 2), .int (F i 3), .int (F i 4), .int (F i 5)]) := fun a => (zl_hi _ ρ (Or.inr f2)).trans f3
    obtain ⟨c, hc⟩ : ∃ c, L[i]? = some c := ⟨L[i], List.getElem?_eq_getElem (by omega)⟩
    obtain ⟨⟨q1, q1'⟩, q2, q3, q4, q5⟩ := hC i c hc
    have hap := zlaw_app (W := W) (h := 3) (t := 0) hc
    rw [h0] at hap
    have hn : ¬ (c.1 = 3 ∧ c.2.2 W = some 1) → ∀ a ex, zq_pick ([(0, .ref 52), (1, .ref b), (2, .ref tx), (3, .int (nI p)), (4, .int (nI i))] ++ ex) [0, 1, 2, 3, 4] = [(0, .ref 52), (1, .ref b), (2, .ref tx), (3, .int (nI p)), (4, .int (nI i))] → zq_At l G (zq_rm D 0 0) mX3_isBarred (zq_QF G post 0 0) 82 ([(0, .ref 52), (1, .ref b), (2, .ref tx), (3, .int (nI p)), (4, .int (nI i))] ++ ex) [] n (zl_h (zl_sA κ 54 a) ρ) 0 0 := by
      intro ho a ex hex
      have hn := ih (i + 1) (by omega) (by rw [hap]; unfold ztold1; rw [if_neg ho]) a
      refine at_lv [0, 1, 2, 3, 4] ?_
      rw [hex]
      refine at_iincN dX3_isBarred_82 rfl (by decide) ?_
      refine at_goto (tgt := 18) dX3_isBarred_85 (by decide) ?_
      exact hn
    have hti : ∀ r, c.2.2 W = r → (F i 5 = -1 ∧ zrI r = 1) ∨ ∃ e, zHas false cd N (F i 5) e ∧ e W = r ∧ zrI r = zrI r := by
      intro r hr
      rcases q5 with ⟨t1, t2⟩ | t
      · refine Or.inl ⟨t1, ?_⟩
        rw [← hr, t2]; rfl
      · exact Or.inr ⟨_, t, hr, rfl⟩
    have htb : zBe W c.2.2 := by
      rcases q5 with ⟨t1, t2⟩ | t
      · rw [t2]; intro y hy; have : (1 : Int) = y := Option.some.inj hy; omega
      · obtain ⟨code, z1, z2, z3, z4⟩ := hcp
        exact (zHas_v z3 t hE).1
    refine at_iload dX3_isBarred_18 rfl ?_
    refine at_aload_n dX3_isBarred_20 rfl ?_
    refine at_get dX3_isBarred_21 fl_X3_42 (htx a) rfl ?_
    refine at_geN (tgt := 88) dX3_isBarred_24 (by decide) (by omega) (by omega) (fun c24 => ?_) (fun c24 => ?_)
    · omega
    · refine at_iload dX3_isBarred_27 rfl ?_
      refine at_bipush dX3_isBarred_29 (v := nI 12) (by decide) ?_
      refine at_geN (tgt := 88) dX3_isBarred_31 (by decide) (by omega) (by omega) (fun c31 => ?_) (fun c31 => ?_)
      · omega
      · refine at_aload_n dX3_isBarred_34 rfl ?_
        refine at_get dX3_isBarred_35 fl_X3_48 (htx a) rfl ?_
        refine at_iload dX3_isBarred_38 rfl ?_
        refine at_aaldN (j := i) dX3_isBarred_40 (hcx a) (by decide) (fun _ => rfl) (by decide) rfl (by omega) ?_
        rw [f1, show va_rf (some (cr i)) = Value.ref (cr i) from rfl]
        refine at_astore dX3_isBarred_41 (by decide) ?_
        refine at_aload dX3_isBarred_43 rfl ?_
        refine at_ifnull dX3_isBarred_45 ?_
        refine at_aload dX3_isBarred_48 rfl ?_
        refine at_get dX3_isBarred_50 fl_X3_52 (hfx a) rfl ?_
        rw [q2]
        refine at_bipush dX3_isBarred_53 (v := nI 6) (by decide) ?_
        refine at_neN (tgt := 82) dX3_isBarred_55 (by decide) (by omega) (by omega) (fun c55 => ?_) (fun c55 => ?_)
        · exact hn (fun e => c55 (by omega)) _ [(5, .ref (cr i))] rfl
        · refine at_aload_n dX3_isBarred_58 rfl ?_
          refine at_get dX3_isBarred_59 fl_X3_12 (zl_o rfl) rfl ?_
          refine at_aload_n dX3_isBarred_62 rfl ?_
          refine at_aload dX3_isBarred_63 rfl ?_
          refine at_get dX3_isBarred_65 fl_X3_57 (hfx a) rfl ?_
          refine at_aload_n dX3_isBarred_68 rfl ?_
          refine at_get dX3_isBarred_69 fl_X3_18 (zl_o rfl) rfl ?_
          refine at_iconst dX3_isBarred_72 (v := nI 1) (by decide) ?_
          refine at_callV4 (d := D - 1) dX3_isBarred_73 mv_X3_60 (zl_o rfl) (Nat.le_of_ble_eq_true rfl) (zq_r0 (by omega) (by omega) (by omega)) ?_
          refine zc_reckon (by omega) hT hcp rfl (by decide) rfl (hEx a) (c.2.2 W) (zrI (c.2.2 W)) (by rcases hti _ rfl with ⟨t1, t2⟩ | t; exact Or.inl ⟨t1, t2⟩; exact Or.inr t) (fun a' => ?_)
          rw [zlA_A]
          refine at_iconst dX3_isBarred_76 (v := nI 1) (by decide) ?_
          refine at_icmp_ne (tgt := 82) dX3_isBarred_77 (by decide) (fun c77 => ?_) (fun c77 => ?_)
          · exact hn (fun e => c77 (by rw [e.2]; rfl)) _ [(5, .ref (cr i))] rfl
          · have ht1 : c.2.2 W = some 1 := zrI_1 htb c77
            have hp := hp a'
            have e1 : zlaw W 3 0 L = 1 := (by
              rw [zlaw_split (i := i + 1), hap, show ztold1 W 3 0 c = 1 by unfold ztold1; rw [if_pos ⟨by omega, ht1⟩, q3 (by omega)]; rfl]
              exact zlaw_1 _ (fun j c' hj e => (hC (i + 1 + j) c' (by rw [← hj, List.getElem?_drop])).2.2.1 e))
            rw [e1] at hp
            refine at_iconst dX3_isBarred_80 (v := nI 1) (by decide) ?_
            refine at_zret dX3_isBarred_81 rfl (by omega) (by omega) (by first | exact Or.inl rfl | exact Or.inr rfl | assumption) ?_
            exact hp
theorem zc_isBarred {p : Nat} {v : Value} {Lo : Option (List zLC)} (hD : 4 ≤ D) (hb : zQb b) (hQ : zQN κ b m x w) (hT : zQT κ b m K) (hpm : p < m) (hV : zLv ρ v Lo)
    (hp : ∀ a g, post (some (.int (zb (zbar K m p (x p) Lo)))) n (zl_h (zl_sA (zl_sA κ 55 g) 54 a) ρ)) : zq_Runs l G D 0 0 yX3_isBarred [.ref 52, .ref b, v, .int (nI p)] n (zl_h κ ρ) post := by
  unfold zbar at hp
  rcases hV with ⟨rfl, rfl⟩ | ⟨tx, L, rfl, rfl, N, cd, F, ⟨cl, cp, g, cr, a1, a2, a3, a4, a5, a6⟩, hC⟩
  · refine zq_enter (cc := cX3_isBarred) (nL := 6) (ret := (some .boolean)) cw_X3_isBarred (by decide) rfl (Nat.le_of_ble_eq_true rfl) ?_
    have hp := hp (κ.2.1 54) (κ.2.1 55)
    rw [zlA_0, zlA_0] at hp
    refine at_aload_nN dX3_isBarred_0 rfl ?_
    refine at_ifnonnullN dX3_isBarred_1 ?_
    refine at_iconst dX3_isBarred_4 (v := nI 0) (by decide) ?_
    refine at_zret dX3_isBarred_5 rfl (by omega) (by omega) (by first | exact Or.inl rfl | exact Or.inr rfl | assumption) ?_
    exact hp
  · refine zq_enter (cc := cX3_isBarred) (nL := 6) (ret := (some .boolean)) cw_X3_isBarred (by decide) rfl (Nat.le_of_ble_eq_true rfl) ?_
    refine at_aload_n dX3_isBarred_0 rfl ?_
    refine at_ifnonnull (tgt := 6) dX3_isBarred_1 (by decide) ?_
    refine at_aload_n dX3_isBarred_6 rfl ?_
    refine at_aload_n dX3_isBarred_7 rfl ?_
    refine at_iload_n dX3_isBarred_8 rfl ?_
    refine at_iconst dX3_isBarred_9 (v := -1) rfl ?_
    refine at_iconst dX3_isBarred_10 (v := -1) rfl ?_
    refine at_iconst dX3_isBarred_11 (v := -1) rfl ?_
    refine at_callV5 (d := D - 1) dX3_isBarred_12 mv_X3_34 (zl_o rfl) (Nat.le_of_ble_eq_true rfl) (zq_r0 (by omega) (by omega) (by omega)) ?_
    refine zc_fillWords (K := K) (kk := -1) (lt := -1) (yy := -1) (by omega) hb hQ hT hpm (Or.inl rfl) ⟨by decide, by decide⟩ rfl (fun g' hg' => ?_)
    refine at_iconst dX3_isBarred_15 (v := nI 0) (by decide) ?_
    refine at_istore dX3_isBarred_16 (by decide) ?_
    have hn := zc_barred_loop (l := l) (G := G) (n := n) (b := b) (p := p) (post := post) (κ := zl_sA κ 55 g') (by omega) a1 a2 a3 a4 a5 a6 hC (W := zlwV K m p (x p) (-1) (-1)) (by rw [zlA_s]; exact hg') (D := D) (fun a => hp a g') L.length 0 (by omega) rfl ((zl_sA κ 55 g').2.1 54)
    rw [zlA_0] at hn
    exact hn
theorem zc_strokeCost {p k : Nat} {yy : Int32} {v : Value} {Lo : Option (List zLC)} (hD : 4 ≤ D) (hb : zQb b) (hQ : zQN κ b m x w) (hT : zQT κ b m K) (hpm : p < m) (hk : k < zlen (x p)) (hy : zSm yy) (hV : zLv ρ v Lo)
    (hp : ∀ a g, post (some (.int (zI (ztell (zlwV K m p (x p) (nI k) yy) 1 1 Lo)))) n (zl_h (zl_sA (zl_sA κ 55 g) 54 a) ρ)) : zq_Runs l G D 0 0 yX3_strokeCost [.ref 52, .ref b, v, .int (nI p), .int (nI k), .int yy] n (zl_h κ ρ) post := by
  have hv := (hQ.2.2.1 p hpm).2
  have hk4 : k < 4 := by rcases zlen_cs (x p) with ⟨e, _⟩ | ⟨e, _⟩ | ⟨e, _⟩ | ⟨e, _⟩ <;> omega
  have hle : nI (if zix 4 (nI k) = true then zdg4 (x p) (nI k).toNatClampNeg else 0) = if nI k = -1 then -1 else nI (zlt (x p) (nI k).toNatClampNeg) := by
    rw [if_neg (nI_ne_m1 (by omega)), zix_n (by omega), if_pos (decide_eq_true hk4), nI_clamp (by omega)]
    unfold zdg4
    rw [if_pos hk]
  have hsh : v = .null ∨ ∃ t, v = .ref t := by rcases hV with ⟨h, -⟩ | ⟨t, -, h, -⟩; exact Or.inl h; exact Or.inr ⟨t, h⟩
  rcases hsh with rfl | ⟨t, rfl⟩
  all_goals
    refine zq_enter (cc := cX3_strokeCost) (nL := 6) (ret := (some .int)) cw_X3_strokeCost (by decide) rfl (Nat.le_of_ble_eq_true rfl) ?_
    refine at_aload_n dX3_strokeCost_0 rfl ?_
    refine at_aload_n dX3_strokeCost_1 rfl ?_
    refine at_iload_n dX3_strokeCost_2 rfl ?_
    refine at_iload dX3_strokeCost_3 rfl ?_
    refine at_aload_n dX3_strokeCost_5 rfl ?_
    refine at_iload_n dX3_strokeCost_6 rfl ?_
    refine at_callV1 (d := D - 1) dX3_strokeCost_7 mv_X3_22 (zl_q hb) (Nat.le_of_ble_eq_true rfl) (zq_r0 (by omega) (by omega) (by omega)) ?_
    refine zc_nameOf (by omega) hb hQ hpm ?_
    refine at_iload dX3_strokeCost_10 rfl ?_
    refine at_callS2 (d := D - 1) dX3_strokeCost_12 ms_X3_28 (Nat.le_of_ble_eq_true rfl) (zq_r0 (by omega) (by omega) (by omega)) ?_
    refine zc_letterOf (by omega) (by have := hv.1; omega) (by have := hv.2.1; omega) ?_
    refine at_iload dX3_strokeCost_15 rfl ?_
    refine at_callV5 (d := D - 1) dX3_strokeCost_17 mv_X3_34 (zl_o rfl) (Nat.le_of_ble_eq_true rfl) (zq_r0 (by omega) (by omega) (by omega)) ?_
    refine zc_fillWords (K := K) (by omega) hb hQ hT hpm (Or.inr ⟨k, hk, rfl⟩) hy hle (fun g' hg' => ?_)
    refine at_aload_n dX3_strokeCost_20 rfl ?_
    first | refine at_aload_n dX3_strokeCost_21 rfl ?_ | refine at_aload_nN dX3_strokeCost_21 rfl ?_
    refine at_iconst dX3_strokeCost_22 (v := nI 4) (by decide) ?_
    refine at_callV2 (d := D - 1) dX3_strokeCost_23 mv_X3_38 (zl_o rfl) (Nat.le_of_ble_eq_true rfl) (zq_r0 (by omega) (by omega) (by omega)) ?_
    refine zc_lastTold (h := 1) (κ := zl_sA κ 55 g') (by omega) hV (by rw [zlA_s]; exact hg') (Or.inl rfl) (fun a => ?_)
    have hp := hp a g'
    refine at_iret dX3_strokeCost_26 rfl (by omega) (by omega) ?_
    exact hp
theorem zc_stepCost {p : Nat} {v : Value} {Lo : Option (List zLC)} (hD : 4 ≤ D) (hb : zQb b) (hQ : zQN κ b m x w) (hT : zQT κ b m K) (hpm : p < m) (hV : zLv ρ v Lo)
    (hp : ∀ a g, post (some (.int (zI (ztell (zlwV K m p (x p) (-1) (-1)) 2 1 Lo)))) n (zl_h (zl_sA (zl_sA κ 55 g) 54 a) ρ)) : zq_Runs l G D 0 0 yX3_stepCost [.ref 52, .ref b, v, .int (nI p)] n (zl_h κ ρ) post := by
  have hsh : v = .null ∨ ∃ t, v = .ref t := by rcases hV with ⟨h, -⟩ | ⟨t, -, h, -⟩; exact Or.inl h; exact Or.inr ⟨t, h⟩
  rcases hsh with rfl | ⟨t, rfl⟩
  all_goals
    refine zq_enter (cc := cX3_stepCost) (nL := 4) (ret := (some .int)) cw_X3_stepCost (by decide) rfl (Nat.le_of_ble_eq_true rfl) ?_
    refine at_aload_n dX3_stepCost_0 rfl ?_
    refine at_aload_n dX3_stepCost_1 rfl ?_
    refine at_iload_n dX3_stepCost_2 rfl ?_
    refine at_iconst dX3_stepCost_3 (v := -1) rfl ?_
    refine at_iconst dX3_stepCost_4 (v := -1) rfl ?_
    refine at_iconst dX3_stepCost_5 (v := -1) rfl ?_
    refine at_callV5 (d := D - 1) dX3_stepCost_6 mv_X3_34 (zl_o rfl) (Nat.le_of_ble_eq_true rfl) (zq_r0 (by omega) (by omega) (by omega)) ?_
    refine zc_fillWords (K := K) (kk := -1) (lt := -1) (yy := -1) (by omega) hb hQ hT hpm (Or.inl rfl) ⟨by decide, by decide⟩ rfl (fun g' hg' => ?_)
    refine at_aload_n dX3_stepCost_9 rfl ?_
    first | refine at_aload_n dX3_stepCost_10 rfl ?_ | refine at_aload_nN dX3_stepCost_10 rfl ?_
    refine at_iconst dX3_stepCost_11 (v := nI 5) (by decide) ?_
    refine at_callV2 (d := D - 1) dX3_stepCost_12 mv_X3_38 (zl_o rfl) (Nat.le_of_ble_eq_true rfl) (zq_r0 (by omega) (by omega) (by omega)) ?_
    refine zc_lastTold (h := 2) (κ := zl_sA κ 55 g') (by omega) hV (by rw [zlA_s]; exact hg') (Or.inr rfl) (fun a => ?_)
    have hp := hp a g'
    refine at_iret dX3_stepCost_15 rfl (by omega) (by omega) ?_
    exact hp
end ZC13

