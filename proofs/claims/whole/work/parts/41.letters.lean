/-! ===== names with a letter changed; the Model's weeks, counts ===== -/
theorem zlen_cs (x : Nat) : (zlen x = 1 ∧ x < 10) ∨ (zlen x = 2 ∧ 10 ≤ x ∧ x < 100) ∨ (zlen x = 3 ∧ 100 ≤ x ∧ x < 1000) ∨ (zlen x = 4 ∧ 1000 ≤ x) := by
  unfold zlen
  by_cases a : x < 10
  · rw [if_pos a]; omega
  · rw [if_neg a]
    by_cases b : x < 100
    · rw [if_pos b]; omega
    · rw [if_neg b]
      by_cases c : x < 1000
      · rw [if_pos c]; omega
      · rw [if_neg c]; omega
theorem zlen_i1 {x : Nat} (h2 : x < 10) : zlen x = 1 := by
  have := zlen_cs x
  omega
theorem zlen_i2 {x : Nat} (h1 : 10 ≤ x) (h2 : x < 100) : zlen x = 2 := by
  have := zlen_cs x
  omega
theorem zlen_i3 {x : Nat} (h1 : 100 ≤ x) (h2 : x < 1000) : zlen x = 3 := by
  have := zlen_cs x
  omega
theorem zlen_i4 {x : Nat} (h1 : 1000 ≤ x) : zlen x = 4 := by
  have := zlen_cs x
  omega
theorem zwl_10 {x y : Nat} (h : zvn x) (e : zlen x = 1) (h1 : 1 ≤ y) (h5 : y ≤ 5) : zvn (zwl x 0 y) ∧ zlen (zwl x 0 y) = 1 ∧ ∀ j, j < 1 → zlt (zwl x 0 y) j = if j = 0 then y else zlt x j := by
  have r := zlen_cs x
  have r2 := h.2.1
  have d0 := zvn_at h (k := 0) (by omega)
  unfold zlt at d0
  rw [e, show 1 - 1 - 0 = 0 from rfl] at d0
  have ez : zwl x 0 y = x + y * 10 ^ 0 - x / 10 ^ 0 % 10 * 10 ^ 0 := by unfold zwl zlt; rw [e]
  have el : zlen (zwl x 0 y) = 1 := by rw [ez]; exact zlen_i1 (by omega)
  have hz : ∀ j, j < 1 → zlt (zwl x 0 y) j = if j = 0 then y else zlt x j := by
    intro j hj
    obtain rfl : j = 0 := by omega
    unfold zlt
    rw [el, ez, if_pos rfl, show 1 - 1 - 0 = 0 from rfl]
    omega
  refine ⟨⟨?_, ?_, ?_⟩, el, hz⟩
  · rw [ez]; omega
  · rw [ez]; omega
  · rw [el]
    refine zall_of _ (fun j hj => ?_)
    rw [hz j hj]
    split
    · exact ⟨h1, h5⟩
    · exact zvn_at h (by omega)
theorem zwl_20 {x y : Nat} (h : zvn x) (e : zlen x = 2) (h1 : 1 ≤ y) (h5 : y ≤ 5) : zvn (zwl x 0 y) ∧ zlen (zwl x 0 y) = 2 ∧ ∀ j, j < 2 → zlt (zwl x 0 y) j = if j = 0 then y else zlt x j := by
  have r := zlen_cs x
  have r2 := h.2.1
  have d0 := zvn_at h (k := 0) (by omega)
  have d1 := zvn_at h (k := 1) (by omega)
  unfold zlt at d0
  rw [e, show 2 - 1 - 0 = 1 from rfl] at d0
  unfold zlt at d1
  rw [e, show 2 - 1 - 1 = 0 from rfl] at d1
  have ez : zwl x 0 y = x + y * 10 ^ 1 - x / 10 ^ 1 % 10 * 10 ^ 1 := by unfold zwl zlt; rw [e]
  have el : zlen (zwl x 0 y) = 2 := by rw [ez]; exact zlen_i2 (by omega) (by omega)
  have hz : ∀ j, j < 2 → zlt (zwl x 0 y) j = if j = 0 then y else zlt x j := by
    intro j hj
    rcases (show j = 0 ∨ j = 1 by omega) with rfl | rfl
    · unfold zlt
      rw [el, ez, if_pos rfl, show 2 - 1 - 0 = 1 from rfl]
      omega
    · unfold zlt
      rw [el, ez, if_neg (by decide), e, show 2 - 1 - 1 = 0 from rfl]
      omega
  refine ⟨⟨?_, ?_, ?_⟩, el, hz⟩
  · rw [ez]; omega
  · rw [ez]; omega
  · rw [el]
    refine zall_of _ (fun j hj => ?_)
    rw [hz j hj]
    split
    · exact ⟨h1, h5⟩
    · exact zvn_at h (by omega)
theorem zwl_21 {x y : Nat} (h : zvn x) (e : zlen x = 2) (h1 : 1 ≤ y) (h5 : y ≤ 5) : zvn (zwl x 1 y) ∧ zlen (zwl x 1 y) = 2 ∧ ∀ j, j < 2 → zlt (zwl x 1 y) j = if j = 1 then y else zlt x j := by
  have r := zlen_cs x
  have r2 := h.2.1
  have d0 := zvn_at h (k := 0) (by omega)
  have d1 := zvn_at h (k := 1) (by omega)
  unfold zlt at d0
  rw [e, show 2 - 1 - 0 = 1 from rfl] at d0
  unfold zlt at d1
  rw [e, show 2 - 1 - 1 = 0 from rfl] at d1
  have ez : zwl x 1 y = x + y * 10 ^ 0 - x / 10 ^ 0 % 10 * 10 ^ 0 := by unfold zwl zlt; rw [e]
  have el : zlen (zwl x 1 y) = 2 := by rw [ez]; exact zlen_i2 (by omega) (by omega)
  have hz : ∀ j, j < 2 → zlt (zwl x 1 y) j = if j = 1 then y else zlt x j := by
    intro j hj
    rcases (show j = 0 ∨ j = 1 by omega) with rfl | rfl
    · unfold zlt
      rw [el, ez, if_neg (by decide), e, show 2 - 1 - 0 = 1 from rfl]
      omega
    · unfold zlt
      rw [el, ez, if_pos rfl, show 2 - 1 - 1 = 0 from rfl]
      omega
  refine ⟨⟨?_, ?_, ?_⟩, el, hz⟩
  · rw [ez]; omega
  · rw [ez]; omega
  · rw [el]
    refine zall_of _ (fun j hj => ?_)
    rw [hz j hj]
    split
    · exact ⟨h1, h5⟩
    · exact zvn_at h (by omega)
theorem zwl_30 {x y : Nat} (h : zvn x) (e : zlen x = 3) (h1 : 1 ≤ y) (h5 : y ≤ 5) : zvn (zwl x 0 y) ∧ zlen (zwl x 0 y) = 3 ∧ ∀ j, j < 3 → zlt (zwl x 0 y) j = if j = 0 then y else zlt x j := by
  have r := zlen_cs x
  have r2 := h.2.1
  have d0 := zvn_at h (k := 0) (by omega)
  have d1 := zvn_at h (k := 1) (by omega)
  have d2 := zvn_at h (k := 2) (by omega)
  unfold zlt at d0
  rw [e, show 3 - 1 - 0 = 2 from rfl] at d0
  unfold zlt at d1
  rw [e, show 3 - 1 - 1 = 1 from rfl] at d1
  unfold zlt at d2
  rw [e, show 3 - 1 - 2 = 0 from rfl] at d2
  have ez : zwl x 0 y = x + y * 10 ^ 2 - x / 10 ^ 2 % 10 * 10 ^ 2 := by unfold zwl zlt; rw [e]
  have el : zlen (zwl x 0 y) = 3 := by rw [ez]; exact zlen_i3 (by omega) (by omega)
  have hz : ∀ j, j < 3 → zlt (zwl x 0 y) j = if j = 0 then y else zlt x j := by
    intro j hj
    rcases (show j = 0 ∨ j = 1 ∨ j = 2 by omega) with rfl | rfl | rfl
    · unfold zlt
      rw [el, ez, if_pos rfl, show 3 - 1 - 0 = 2 from rfl]
      omega
    · unfold zlt
      rw [el, ez, if_neg (by decide), e, show 3 - 1 - 1 = 1 from rfl]
      omega
    · unfold zlt
      rw [el, ez, if_neg (by decide), e, show 3 - 1 - 2 = 0 from rfl]
      omega
  refine ⟨⟨?_, ?_, ?_⟩, el, hz⟩
  · rw [ez]; omega
  · rw [ez]; omega
  · rw [el]
    refine zall_of _ (fun j hj => ?_)
    rw [hz j hj]
    split
    · exact ⟨h1, h5⟩
    · exact zvn_at h (by omega)
theorem zwl_31 {x y : Nat} (h : zvn x) (e : zlen x = 3) (h1 : 1 ≤ y) (h5 : y ≤ 5) : zvn (zwl x 1 y) ∧ zlen (zwl x 1 y) = 3 ∧ ∀ j, j < 3 → zlt (zwl x 1 y) j = if j = 1 then y else zlt x j := by
  have r := zlen_cs x
  have r2 := h.2.1
  have d0 := zvn_at h (k := 0) (by omega)
  have d1 := zvn_at h (k := 1) (by omega)
  have d2 := zvn_at h (k := 2) (by omega)
  unfold zlt at d0
  rw [e, show 3 - 1 - 0 = 2 from rfl] at d0
  unfold zlt at d1
  rw [e, show 3 - 1 - 1 = 1 from rfl] at d1
  unfold zlt at d2
  rw [e, show 3 - 1 - 2 = 0 from rfl] at d2
  have ez : zwl x 1 y = x + y * 10 ^ 1 - x / 10 ^ 1 % 10 * 10 ^ 1 := by unfold zwl zlt; rw [e]
  have el : zlen (zwl x 1 y) = 3 := by rw [ez]; exact zlen_i3 (by omega) (by omega)
  have hz : ∀ j, j < 3 → zlt (zwl x 1 y) j = if j = 1 then y else zlt x j := by
    intro j hj
    rcases (show j = 0 ∨ j = 1 ∨ j = 2 by omega) with rfl | rfl | rfl
    · unfold zlt
      rw [el, ez, if_neg (by decide), e, show 3 - 1 - 0 = 2 from rfl]
      omega
    · unfold zlt
      rw [el, ez, if_pos rfl, show 3 - 1 - 1 = 1 from rfl]
      omega
    · unfold zlt
      rw [el, ez, if_neg (by decide), e, show 3 - 1 - 2 = 0 from rfl]
      omega
  refine ⟨⟨?_, ?_, ?_⟩, el, hz⟩
  · rw [ez]; omega
  · rw [ez]; omega
  · rw [el]
    refine zall_of _ (fun j hj => ?_)
    rw [hz j hj]
    split
    · exact ⟨h1, h5⟩
    · exact zvn_at h (by omega)
theorem zwl_32 {x y : Nat} (h : zvn x) (e : zlen x = 3) (h1 : 1 ≤ y) (h5 : y ≤ 5) : zvn (zwl x 2 y) ∧ zlen (zwl x 2 y) = 3 ∧ ∀ j, j < 3 → zlt (zwl x 2 y) j = if j = 2 then y else zlt x j := by
  have r := zlen_cs x
  have r2 := h.2.1
  have d0 := zvn_at h (k := 0) (by omega)
  have d1 := zvn_at h (k := 1) (by omega)
  have d2 := zvn_at h (k := 2) (by omega)
  unfold zlt at d0
  rw [e, show 3 - 1 - 0 = 2 from rfl] at d0
  unfold zlt at d1
  rw [e, show 3 - 1 - 1 = 1 from rfl] at d1
  unfold zlt at d2
  rw [e, show 3 - 1 - 2 = 0 from rfl] at d2
  have ez : zwl x 2 y = x + y * 10 ^ 0 - x / 10 ^ 0 % 10 * 10 ^ 0 := by unfold zwl zlt; rw [e]
  have el : zlen (zwl x 2 y) = 3 := by rw [ez]; exact zlen_i3 (by omega) (by omega)
  have hz : ∀ j, j < 3 → zlt (zwl x 2 y) j = if j = 2 then y else zlt x j := by
    intro j hj
    rcases (show j = 0 ∨ j = 1 ∨ j = 2 by omega) with rfl | rfl | rfl
    · unfold zlt
      rw [el, ez, if_neg (by decide), e, show 3 - 1 - 0 = 2 from rfl]
      omega
    · unfold zlt
      rw [el, ez, if_neg (by decide), e, show 3 - 1 - 1 = 1 from rfl]
      omega
    · unfold zlt
      rw [el, ez, if_pos rfl, show 3 - 1 - 2 = 0 from rfl]
      omega
  refine ⟨⟨?_, ?_, ?_⟩, el, hz⟩
  · rw [ez]; omega
  · rw [ez]; omega
  · rw [el]
    refine zall_of _ (fun j hj => ?_)
    rw [hz j hj]
    split
    · exact ⟨h1, h5⟩
    · exact zvn_at h (by omega)
theorem zwl_40 {x y : Nat} (h : zvn x) (e : zlen x = 4) (h1 : 1 ≤ y) (h5 : y ≤ 5) : zvn (zwl x 0 y) ∧ zlen (zwl x 0 y) = 4 ∧ ∀ j, j < 4 → zlt (zwl x 0 y) j = if j = 0 then y else zlt x j := by
  have r := zlen_cs x
  have r2 := h.2.1
  have d0 := zvn_at h (k := 0) (by omega)
  have d1 := zvn_at h (k := 1) (by omega)
  have d2 := zvn_at h (k := 2) (by omega)
  have d3 := zvn_at h (k := 3) (by omega)
  unfold zlt at d0
  rw [e, show 4 - 1 - 0 = 3 from rfl] at d0
  unfold zlt at d1
  rw [e, show 4 - 1 - 1 = 2 from rfl] at d1
  unfold zlt at d2
  rw [e, show 4 - 1 - 2 = 1 from rfl] at d2
  unfold zlt at d3
  rw [e, show 4 - 1 - 3 = 0 from rfl] at d3
  have ez : zwl x 0 y = x + y * 10 ^ 3 - x / 10 ^ 3 % 10 * 10 ^ 3 := by unfold zwl zlt; rw [e]
  have el : zlen (zwl x 0 y) = 4 := by rw [ez]; exact zlen_i4 (by omega)
  have hz : ∀ j, j < 4 → zlt (zwl x 0 y) j = if j = 0 then y else zlt x j := by
    intro j hj
    rcases (show j = 0 ∨ j = 1 ∨ j = 2 ∨ j = 3 by omega) with rfl | rfl | rfl | rfl
    · unfold zlt
      rw [el, ez, if_pos rfl, show 4 - 1 - 0 = 3 from rfl]
      omega
    · unfold zlt
      rw [el, ez, if_neg (by decide), e, show 4 - 1 - 1 = 2 from rfl]
      omega
    · unfold zlt
      rw [el, ez, if_neg (by decide), e, show 4 - 1 - 2 = 1 from rfl]
      omega
    · unfold zlt
      rw [el, ez, if_neg (by decide), e, show 4 - 1 - 3 = 0 from rfl]
      omega
  refine ⟨⟨?_, ?_, ?_⟩, el, hz⟩
  · rw [ez]; omega
  · rw [ez]; omega
  · rw [el]
    refine zall_of _ (fun j hj => ?_)
    rw [hz j hj]
    split
    · exact ⟨h1, h5⟩
    · exact zvn_at h (by omega)
theorem zwl_41 {x y : Nat} (h : zvn x) (e : zlen x = 4) (h1 : 1 ≤ y) (h5 : y ≤ 5) : zvn (zwl x 1 y) ∧ zlen (zwl x 1 y) = 4 ∧ ∀ j, j < 4 → zlt (zwl x 1 y) j = if j = 1 then y else zlt x j := by
  have r := zlen_cs x
  have r2 := h.2.1
  have d0 := zvn_at h (k := 0) (by omega)
  have d1 := zvn_at h (k := 1) (by omega)
  have d2 := zvn_at h (k := 2) (by omega)
  have d3 := zvn_at h (k := 3) (by omega)
  unfold zlt at d0
  rw [e, show 4 - 1 - 0 = 3 from rfl] at d0
  unfold zlt at d1
  rw [e, show 4 - 1 - 1 = 2 from rfl] at d1
  unfold zlt at d2
  rw [e, show 4 - 1 - 2 = 1 from rfl] at d2
  unfold zlt at d3
  rw [e, show 4 - 1 - 3 = 0 from rfl] at d3
  have ez : zwl x 1 y = x + y * 10 ^ 2 - x / 10 ^ 2 % 10 * 10 ^ 2 := by unfold zwl zlt; rw [e]
  have el : zlen (zwl x 1 y) = 4 := by rw [ez]; exact zlen_i4 (by omega)
  have hz : ∀ j, j < 4 → zlt (zwl x 1 y) j = if j = 1 then y else zlt x j := by
    intro j hj
    rcases (show j = 0 ∨ j = 1 ∨ j = 2 ∨ j = 3 by omega) with rfl | rfl | rfl | rfl
    · unfold zlt
      rw [el, ez, if_neg (by decide), e, show 4 - 1 - 0 = 3 from rfl]
      omega
    · unfold zlt
      rw [el, ez, if_pos rfl, show 4 - 1 - 1 = 2 from rfl]
      omega
    · unfold zlt
      rw [el, ez, if_neg (by decide), e, show 4 - 1 - 2 = 1 from rfl]
      omega
    · unfold zlt
      rw [el, ez, if_neg (by decide), e, show 4 - 1 - 3 = 0 from rfl]
      omega
  refine ⟨⟨?_, ?_, ?_⟩, el, hz⟩
  · rw [ez]; omega
  · rw [ez]; omega
  · rw [el]
    refine zall_of _ (fun j hj => ?_)
    rw [hz j hj]
    split
    · exact ⟨h1, h5⟩
    · exact zvn_at h (by omega)
theorem zwl_42 {x y : Nat} (h : zvn x) (e : zlen x = 4) (h1 : 1 ≤ y) (h5 : y ≤ 5) : zvn (zwl x 2 y) ∧ zlen (zwl x 2 y) = 4 ∧ ∀ j, j < 4 → zlt (zwl x 2 y) j = if j = 2 then y else zlt x j := by
  have r := zlen_cs x
  have r2 := h.2.1
  have d0 := zvn_at h (k := 0) (by omega)
  have d1 := zvn_at h (k := 1) (by omega)
  have d2 := zvn_at h (k := 2) (by omega)
  have d3 := zvn_at h (k := 3) (by omega)
  unfold zlt at d0
  rw [e, show 4 - 1 - 0 = 3 from rfl] at d0
  unfold zlt at d1
  rw [e, show 4 - 1 - 1 = 2 from rfl] at d1
  unfold zlt at d2
  rw [e, show 4 - 1 - 2 = 1 from rfl] at d2
  unfold zlt at d3
  rw [e, show 4 - 1 - 3 = 0 from rfl] at d3
  have ez : zwl x 2 y = x + y * 10 ^ 1 - x / 10 ^ 1 % 10 * 10 ^ 1 := by unfold zwl zlt; rw [e]
  have el : zlen (zwl x 2 y) = 4 := by rw [ez]; exact zlen_i4 (by omega)
  have hz : ∀ j, j < 4 → zlt (zwl x 2 y) j = if j = 2 then y else zlt x j := by
    intro j hj
    rcases (show j = 0 ∨ j = 1 ∨ j = 2 ∨ j = 3 by omega) with rfl | rfl | rfl | rfl
    · unfold zlt
      rw [el, ez, if_neg (by decide), e, show 4 - 1 - 0 = 3 from rfl]
      omega
    · unfold zlt
      rw [el, ez, if_neg (by decide), e, show 4 - 1 - 1 = 2 from rfl]
      omega
    · unfold zlt
      rw [el, ez, if_pos rfl, show 4 - 1 - 2 = 1 from rfl]
      omega
    · unfold zlt
      rw [el, ez, if_neg (by decide), e, show 4 - 1 - 3 = 0 from rfl]
      omega
  refine ⟨⟨?_, ?_, ?_⟩, el, hz⟩
  · rw [ez]; omega
  · rw [ez]; omega
  · rw [el]
    refine zall_of _ (fun j hj => ?_)
    rw [hz j hj]
    split
    · exact ⟨h1, h5⟩
    · exact zvn_at h (by omega)
theorem zwl_43 {x y : Nat} (h : zvn x) (e : zlen x = 4) (h1 : 1 ≤ y) (h5 : y ≤ 5) : zvn (zwl x 3 y) ∧ zlen (zwl x 3 y) = 4 ∧ ∀ j, j < 4 → zlt (zwl x 3 y) j = if j = 3 then y else zlt x j := by
  have r := zlen_cs x
  have r2 := h.2.1
  have d0 := zvn_at h (k := 0) (by omega)
  have d1 := zvn_at h (k := 1) (by omega)
  have d2 := zvn_at h (k := 2) (by omega)
  have d3 := zvn_at h (k := 3) (by omega)
  unfold zlt at d0
  rw [e, show 4 - 1 - 0 = 3 from rfl] at d0
  unfold zlt at d1
  rw [e, show 4 - 1 - 1 = 2 from rfl] at d1
  unfold zlt at d2
  rw [e, show 4 - 1 - 2 = 1 from rfl] at d2
  unfold zlt at d3
  rw [e, show 4 - 1 - 3 = 0 from rfl] at d3
  have ez : zwl x 3 y = x + y * 10 ^ 0 - x / 10 ^ 0 % 10 * 10 ^ 0 := by unfold zwl zlt; rw [e]
  have el : zlen (zwl x 3 y) = 4 := by rw [ez]; exact zlen_i4 (by omega)
  have hz : ∀ j, j < 4 → zlt (zwl x 3 y) j = if j = 3 then y else zlt x j := by
    intro j hj
    rcases (show j = 0 ∨ j = 1 ∨ j = 2 ∨ j = 3 by omega) with rfl | rfl | rfl | rfl
    · unfold zlt
      rw [el, ez, if_neg (by decide), e, show 4 - 1 - 0 = 3 from rfl]
      omega
    · unfold zlt
      rw [el, ez, if_neg (by decide), e, show 4 - 1 - 1 = 2 from rfl]
      omega
    · unfold zlt
      rw [el, ez, if_neg (by decide), e, show 4 - 1 - 2 = 1 from rfl]
      omega
    · unfold zlt
      rw [el, ez, if_pos rfl, show 4 - 1 - 3 = 0 from rfl]
      omega
  refine ⟨⟨?_, ?_, ?_⟩, el, hz⟩
  · rw [ez]; omega
  · rw [ez]; omega
  · rw [el]
    refine zall_of _ (fun j hj => ?_)
    rw [hz j hj]
    split
    · exact ⟨h1, h5⟩
    · exact zvn_at h (by omega)
theorem zwl_ok {x k y : Nat} (h : zvn x) (hk : k < zlen x) (h1 : 1 ≤ y) (h5 : y ≤ 5) : zvn (zwl x k y) ∧ zlen (zwl x k y) = zlen x ∧ ∀ j, j < zlen x → zlt (zwl x k y) j = if j = k then y else zlt x j := by
  rcases zlen_cs x with e | e | e | e
  · have e := e.1
    rw [e] at hk ⊢
    obtain rfl : k = 0 := by omega
    exact zwl_10 h e h1 h5
  · have e := e.1
    rw [e] at hk ⊢
    rcases (show k = 0 ∨ k = 1 by omega) with rfl | rfl
    · exact zwl_20 h e h1 h5
    · exact zwl_21 h e h1 h5
  · have e := e.1
    rw [e] at hk ⊢
    rcases (show k = 0 ∨ k = 1 ∨ k = 2 by omega) with rfl | rfl | rfl
    · exact zwl_30 h e h1 h5
    · exact zwl_31 h e h1 h5
    · exact zwl_32 h e h1 h5
  · have e := e.1
    rw [e] at hk ⊢
    rcases (show k = 0 ∨ k = 1 ∨ k = 2 ∨ k = 3 by omega) with rfl | rfl | rfl | rfl
    · exact zwl_40 h e h1 h5
    · exact zwl_41 h e h1 h5
    · exact zwl_42 h e h1 h5
    · exact zwl_43 h e h1 h5
/-- two such changes: the second one stands, the same letter again is the name itself -/
theorem zlt_ext {x y : Nat} (hx : zvn x) (hy : zvn y) (hl : zlen x = zlen y) (h : ∀ j, j < zlen x → zlt x j = zlt y j) : x = y := by
  have rx := zlen_cs x
  have ry := zlen_cs y
  have x5 := hx.2.1
  have y5 := hy.2.1
  rcases rx with e | e | e | e

  · have ey : zlen y = 1 := by omega
    have d0 := h 0 (by omega)
    unfold zlt at d0
    rw [e.1, ey, show 1 - 1 - 0 = 0 from rfl] at d0
    omega
  · have ey : zlen y = 2 := by omega
    have d0 := h 0 (by omega)
    unfold zlt at d0
    rw [e.1, ey, show 2 - 1 - 0 = 1 from rfl] at d0
    have d1 := h 1 (by omega)
    unfold zlt at d1
    rw [e.1, ey, show 2 - 1 - 1 = 0 from rfl] at d1
    omega
  · have ey : zlen y = 3 := by omega
    have d0 := h 0 (by omega)
    unfold zlt at d0
    rw [e.1, ey, show 3 - 1 - 0 = 2 from rfl] at d0
    have d1 := h 1 (by omega)
    unfold zlt at d1
    rw [e.1, ey, show 3 - 1 - 1 = 1 from rfl] at d1
    have d2 := h 2 (by omega)
    unfold zlt at d2
    rw [e.1, ey, show 3 - 1 - 2 = 0 from rfl] at d2
    omega
  · have ey : zlen y = 4 := by omega
    have d0 := h 0 (by omega)
    unfold zlt at d0
    rw [e.1, ey, show 4 - 1 - 0 = 3 from rfl] at d0
    have d1 := h 1 (by omega)
    unfold zlt at d1
    rw [e.1, ey, show 4 - 1 - 1 = 2 from rfl] at d1
    have d2 := h 2 (by omega)
    unfold zlt at d2
    rw [e.1, ey, show 4 - 1 - 2 = 1 from rfl] at d2
    have d3 := h 3 (by omega)
    unfold zlt at d3
    rw [e.1, ey, show 4 - 1 - 3 = 0 from rfl] at d3
    omega
theorem zwl_back {x k y : Nat} (h : zvn x) (hk : k < zlen x) (h1 : 1 ≤ y) (h5 : y ≤ 5) : zwl (zwl x k y) k (zlt x k) = x := by
  obtain ⟨a1, a2, a3⟩ := zwl_ok h hk h1 h5
  have hz := zvn_at h hk
  obtain ⟨b1, b2, b3⟩ := zwl_ok (y := zlt x k) a1 (by rw [a2]; exact hk) hz.1 hz.2
  refine zlt_ext b1 h (b2.trans a2) (fun j hj => ?_)
  rw [b2, a2] at hj
  rw [b3 j (by rw [a2]; exact hj), a3 j hj]
  split
  · next e => rw [e]
  · rfl

