-- the two worlds' addresses
theorem cw_get (a : Nat → Nat) (cA : Nat → ClassId) (σ : Mem) {i : Nat} (hi : i < 17) : ∃ x : va_E, (cwL a cA σ)[i]? = some (a i, x) := by
  match i, hi with
  | 0, _ => exact ⟨_, rfl⟩
  | 1, _ => exact ⟨_, rfl⟩
  | 2, _ => exact ⟨_, rfl⟩
  | 3, _ => exact ⟨_, rfl⟩
  | j + 4, hj =>
    have h := cw_at (a := a) (cA := cA) (σ := σ) (i := j) (by omega)
    rw [show 4 + j = j + 4 by omega] at h
    exact ⟨_, h⟩
theorem rw_get (a : Nat → Nat) (cA : Nat → ClassId) (σ : Mem) {i : Nat} (hi : i < 6) : ∃ x : va_E, (rwL a cA σ)[i]? = some (a i, x) := by
  match i, hi with
  | 0, _ => exact ⟨_, rfl⟩
  | 1, _ => exact ⟨_, rfl⟩
  | 2, _ => exact ⟨_, rfl⟩
  | 3, _ => exact ⟨_, rfl⟩
  | 4, _ => exact ⟨_, rfl⟩
  | 5, _ => exact ⟨_, rfl⟩
theorem cw_len (a : Nat → Nat) (cA : Nat → ClassId) (σ : Mem) : (cwL a cA σ).length = 17 := by simp [cwL]
theorem two_apart {A : Nat → Prop} {a b : Nat → Nat} {cA cB : Nat → ClassId} {σ τ : Mem} (h : va_D A (cwL a cA σ ++ rwL b cB τ)) : ∀ q, aB a 17 q → aB b 6 q → False := by
  rintro q ⟨i, hi, rfl⟩ ⟨j, hj, hq⟩
  obtain ⟨x, hx⟩ := cw_get a cA σ hi
  obtain ⟨y, hy⟩ := rw_get b cB τ hj
  have h1 : (cwL a cA σ ++ rwL b cB τ)[i]? = some (a i, x) := by rw [List.getElem?_append_left (by rw [cw_len]; exact hi)]; exact hx
  have h2 : (cwL a cA σ ++ rwL b cB τ)[17 + j]? = some (b j, y) := by
    rw [List.getElem?_append_right (by rw [cw_len]; omega), cw_len, show 17 + j - 17 = j by omega]
    exact hy
  have := h.1 i (17 + j) _ _ h1 h2 hq
  omega
theorem two_l {D : va_G} {w1 w2 : va_W} {H : Heap} (h : va_P D classes (w1 ++ w2) H) : va_P D classes w1 H := fun k q hk => h k q (by rw [List.getElem?_append_left (List.getElem?_eq_some_iff.mp hk).1]; exact hk)
theorem two_r {D : va_G} {w1 w2 : va_W} {H : Heap} (h : va_P D classes (w1 ++ w2) H) : va_P D classes w2 H := fun k q hk => h (w1.length + k) q (by rw [List.getElem?_append_right (by omega), show w1.length + k - w1.length = k by omega]; exact hk)
theorem two_dr {A : Nat → Prop} {w1 w2 : va_W} (h : va_D A (w1 ++ w2)) : va_D A w2 := by
  have e : ∀ (k : Nat) (q : Nat × va_E), w2[k]? = some q → (w1 ++ w2)[w1.length + k]? = some q := fun k q hk => by
    rw [List.getElem?_append_right (by omega), show w1.length + k - w1.length = k by omega]; exact hk
  refine ⟨fun i j p q hi hj hpq => ?_, fun k q hk => h.2 _ q (e k q hk)⟩
  have := h.1 _ _ p q (e i p hi) (e j q hj) hpq
  omega
