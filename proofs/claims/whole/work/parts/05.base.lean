/-! own rows: two worlds side by side, and pools by index -/
theorem kx_lt {α : Type} {l : List α} {k : Nat} {x : α} (h : l[k]? = some x) : k < l.length := (List.getElem?_eq_some_iff.mp h).1
theorem kx_al {a b : va_W} {k : Nat} {q : Nat × va_E} (h : a[k]? = some q) : (a ++ b)[k]? = some q := by
  rw [List.getElem?_append_left (kx_lt h)]; exact h
theorem kx_ar {a b : va_W} {k : Nat} {q : Nat × va_E} (h : b[k]? = some q) : (a ++ b)[a.length + k]? = some q := by
  rw [List.getElem?_append_right (Nat.le_add_right _ _), Nat.add_sub_cancel_left]; exact h
/-- a callee that gets the whole world may touch only what the caller may -/
theorem kx_fr {A0 : Nat → Prop} {ws : va_W} {H0 H : Heap} {locs : List Loc} (hD : va_D A0 ws) (hS : va_S A0 H0 H locs) (hA : ∀ q, H0.size ≤ q → A0 q) : ∀ q, va_A ws H.size q → A0 q := by
  intro q hq
  rcases hq with ⟨k, e, hk⟩ | hq
  · exact hD.2 k (q, e) hk
  · exact hA q (Nat.le_trans hS.1 hq)
theorem kx_D1 {A : Nat → Prop} {a b : va_W} (h : va_D A (a ++ b)) : va_D A a := ⟨fun i j p q hi hj he => h.1 i j p q (kx_al hi) (kx_al hj) he, fun k q hk => h.2 k q (kx_al hk)⟩
theorem kx_D2 {A : Nat → Prop} {a b : va_W} (h : va_D A (a ++ b)) : va_D A b := ⟨fun i j p q hi hj he => Nat.add_left_cancel (h.1 _ _ p q (kx_ar hi) (kx_ar hj) he), fun k q hk => h.2 _ q (kx_ar hk)⟩
theorem kx_P1 {D : va_G} {cl : List vw_C} {a b : va_W} {H : Heap} (h : va_P D cl (a ++ b) H) : va_P D cl a H := fun k q hk => h k q (kx_al hk)
theorem kx_P2 {D : va_G} {cl : List vw_C} {a b : va_W} {H : Heap} (h : va_P D cl (a ++ b) H) : va_P D cl b H := fun _ q hk => h _ q (kx_ar hk)
theorem kx_ap {A : Nat → Prop} {a b : va_W} (h : va_D A (a ++ b)) {i j : Nat} {p q : Nat × va_E} (hi : a[i]? = some p) (hj : b[j]? = some q) : p.1 ≠ q.1 := fun he => by
  have h1 := h.1 i (a.length + j) p q (kx_al hi) (kx_ar hj) he
  have h2 := kx_lt hi
  omega
theorem kx_Dc {A : Nat → Prop} {a b : va_W} (h : va_D A (a ++ b)) : va_D A (b ++ a) := va_D.app (kx_D2 h) (kx_D1 h) (fun _ _ _ _ hi hj => (kx_ap h hj hi).symm)
/-- behind a call that had the world a: what is in b stands as it was -/
theorem kx_jn {A0 : Nat → Prop} {D : va_G} {cl : List vw_C} {a b a' : va_W} {H H1 : Heap} (hP : va_P D cl b H) (hD : va_D A0 (a ++ b)) (hk : ∀ q : Nat, q < H.size → ¬ va_A a H.size q → H1[q]? = H[q]?) (hF : ∀ q, va_A a H.size q → A0 q) (hD1 : va_D (va_A a H.size) a') : va_P D cl b H1 ∧ va_D A0 (a' ++ b) := by
  have hn : ∀ (k : Nat) (q : Nat × va_E), b[k]? = some q → q.1 < H.size ∧ ¬ va_A a H.size q.1 := fun k q hk' => by
    refine ⟨(hP k q hk').lt, fun hx => ?_⟩
    rcases hx with ⟨i, e, hi⟩ | hx
    · exact kx_ap hD hi hk' rfl
    · exact absurd (hP k q hk').lt (Nat.not_lt.mpr hx)
  refine ⟨hP.kept (fun k q hk' => hk q.1 (hn k q hk').1 (hn k q hk').2), ?_⟩
  refine va_D.app (hD1.weaken (fun _ q _ h => hF q.1 h)) (kx_D2 hD) (fun i j p q hi hj he => ?_)
  exact (hn j q hj).2 (he ▸ hD1.2 i p hi)
def kx_pl (n : Nat) (f : Nat → Nat × va_E) : va_W := (List.range n).map f
theorem kx_pl_at {n : Nat} {f : Nat → Nat × va_E} {j : Nat} (h : j < n) : (kx_pl n f)[j]? = some (f j) := by
  simp [kx_pl, h]
theorem kx_pl_get {X : va_W} {n : Nat} {f : Nat → Nat × va_E} {j : Nat} (h : j < n) : (X ++ kx_pl n f)[X.length + j]? = some (f j) := kx_ar (kx_pl_at h)
theorem kx_pl_len (n : Nat) (f : Nat → Nat × va_E) : (kx_pl n f).length = n := by simp [kx_pl]
theorem kx_pl_set {X : va_W} {n : Nat} {f g : Nat → Nat × va_E} {j : Nat} {e : Nat × va_E} (h : j < n) (he : g j = e) (hg : ∀ i, i ≠ j → g i = f i) : (X ++ kx_pl n f).set (X.length + j) e = X ++ kx_pl n g := by
  apply List.ext_getElem?
  intro i
  rw [List.getElem?_set]
  by_cases hij : X.length + j = i
  · subst hij
    rw [if_pos rfl, if_pos (by rw [List.length_append, kx_pl_len]; omega), kx_pl_get h, he]
  · rw [if_neg hij]
    by_cases hi : i < X.length
    · rw [List.getElem?_append_left hi, List.getElem?_append_left hi]
    · rw [List.getElem?_append_right (Nat.le_of_not_lt hi), List.getElem?_append_right (Nat.le_of_not_lt hi)]
      by_cases hn : i - X.length < n
      · rw [kx_pl_at hn, kx_pl_at hn, hg _ (by omega)]
      · rw [List.getElem?_eq_none (by rw [kx_pl_len]; omega), List.getElem?_eq_none (by rw [kx_pl_len]; omega)]
theorem kx_pl_push {n : Nat} {f g : Nat → Nat × va_E} {e : Nat × va_E} (he : g n = e) (hg : ∀ i, i < n → g i = f i) : kx_pl n f ++ [e] = kx_pl (n + 1) g := by
  unfold kx_pl
  rw [List.range_succ, List.map_append, List.map_cons, List.map_nil, he]
  congr 1
  exact List.map_congr_left (fun i hi => (hg i (List.mem_range.mp hi)).symm)
