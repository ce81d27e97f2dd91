/-- what holds between the calls: at most 200 things, at most 50 numbers in a row, no thing answered more calls than were made -/
def lInv (M : dM) (t : Nat) : Prop := match M with
  | (n, _, _, cn, rc, _, _, _, _, _, _, _, _, _) => n ≤ 200 ∧ (∀ i, rc i ≤ 50) ∧ ∀ j, ∃ k : Nat, k ≤ t ∧ cn j = nI k
theorem lInv_up {M : dM} {t : Nat} (h : lInv M t) : lInv M (t + 1) := by
  obtain ⟨n, kd, ok, cn, rc, rs, an, fl, t0, t1, t2, t3, t4, t5⟩ := M
  obtain ⟨h1, h2, h3⟩ := h
  exact ⟨h1, h2, fun j => (h3 j).imp (fun k hk => ⟨by omega, hk.2⟩)⟩
theorem kx_inc {x : Int32} (h : x < 50) : x + 1 ≤ 50 := by
  have h1 := Int32.lt_iff_toInt_lt.mp h
  have e1 : (50 : Int32).toInt = 50 := by decide
  have e3 : (1 : Int32).toInt = 1 := by decide
  rw [e1] at h1
  have h2 := Int32.le_toInt x
  apply Int32.le_iff_toInt_le.mpr
  rw [Int32.toInt_add, e3, e1, Int.bmod_eq_of_le (by omega) (by omega)]
  omega
theorem inv_collect {M : dM} {t : Nat} {w : Int32} {v : Int64} (h : lInv M t) : lInv (mCollect M w v).2 (t + 1) := by
  have h0 := lInv_up h
  obtain ⟨n, kd, ok, cn, rc, rs, an, fl, t0, t1, t2, t3, t4, t5⟩ := M
  unfold mCollect
  dsimp only
  by_cases hc : (0 ≤ w ∧ w < 4) ∧ rc w.toNatClampNeg < 50
  · rw [if_pos hc]
    refine ⟨h0.1, fun i => ?_, h0.2.2⟩
    by_cases e : i = w.toNatClampNeg
    · subst e
      rw [pk_us]
      exact kx_inc hc.2
    · rw [pk_un e]
      exact h0.2.1 i
  · rw [if_neg hc]
    exact h0
theorem inv_answer {M : dM} {t : Nat} {w : Int32} {v : Int64} (h : lInv M t) : lInv (mAnswer M w v).2 (t + 1) := by
  have h0 := lInv_up h
  obtain ⟨n, kd, ok, cn, rc, rs, an, fl, t0, t1, t2, t3, t4, t5⟩ := M
  unfold mAnswer
  dsimp only
  by_cases hc : 0 ≤ w ∧ w < 32
  · rw [if_pos hc]
    exact h0
  · rw [if_neg hc]
    exact h0
theorem inv_fails {M : dM} {t : Nat} {w k : Int32} (h : lInv M t) : lInv (mFails M w k).2 (t + 1) := by
  have h0 := lInv_up h
  obtain ⟨n, kd, ok, cn, rc, rs, an, fl, t0, t1, t2, t3, t4, t5⟩ := M
  unfold mFails
  dsimp only
  by_cases hc : (0 ≤ w ∧ w < 32) ∧ 0 ≤ k ∧ k ≤ 6
  · rw [if_pos hc]
    exact h0
  · rw [if_neg hc]
    exact h0
theorem inv_make {M : dM} {t : Nat} {k : Int32} (h : lInv M t) : lInv (mMake M k).2 (t + 1) := by
  have h0 := lInv_up h
  obtain ⟨n, kd, ok, cn, rc, rs, an, fl, t0, t1, t2, t3, t4, t5⟩ := M
  unfold mMake
  dsimp only
  by_cases hc : (0 ≤ k ∧ k < 8) ∧ n < 200
  · rw [if_pos hc]
    refine ⟨by have := hc.2; omega, h0.2.1, fun j => ?_⟩
    by_cases e : j = n
    · subst e
      rw [pk_us]
      exact ⟨0, by omega, rfl⟩
    · rw [pk_un e]
      exact h0.2.2 j
  · rw [if_neg hc]
    exact h0
theorem inv_drop {M : dM} {t : Nat} {x : Int32} (h : lInv M t) : lInv (mDrop M x).2 (t + 1) := by
  have h0 := lInv_up h
  obtain ⟨n, kd, ok, cn, rc, rs, an, fl, t0, t1, t2, t3, t4, t5⟩ := M
  unfold mDrop
  dsimp only
  by_cases hc : (1 ≤ x ∧ x ≤ nI n) ∧ ¬ ok (mIx x) = 0
  · rw [if_pos hc]
    exact h0
  · rw [if_neg hc]
    exact h0
theorem inv_tk {rc : Nat → Int32} {c : Int32} (h : ∀ i, rc i ≤ 50) : ∀ i, mTkC rc c i ≤ 50 := by
  intro i
  unfold mTkC
  by_cases h8 : 8 ≤ c
  · rw [if_pos h8]
    by_cases e : i = (mW4 c).toNatClampNeg
    · subst e
      rw [pk_us]
      decide
    · rw [pk_un e]
      exact h i
  · rw [if_neg h8]
    exact h i
theorem inv_call {M : dM} {t : Nat} {c x : Int32} {a : Int64} (h : lInv M t) : lInv (mCall M c x a).2 (t + 1) := by
  have h0 := lInv_up h
  obtain ⟨n, kd, ok, cn, rc, rs, an, fl, t0, t1, t2, t3, t4, t5⟩ := M
  unfold mCall
  dsimp only
  by_cases hx : 1 ≤ x ∧ x ≤ nI n
  · rw [if_pos hx]
    by_cases hr : mRef rc (kd (mIx x)) (ok (mIx x)) c a = 0
    · rw [if_pos hr]
      dsimp only
      by_cases hf : fl c.toNatClampNeg = 0
      · rw [if_pos hf]
        refine ⟨h0.1, inv_tk h0.2.1, fun j => ?_⟩
        by_cases e : j = mIx x
        · rw [e, pk_us]
          obtain ⟨k, hk, ek⟩ := h.2.2 (mIx x)
          exact ⟨k + 1, by omega, by rw [ek]; exact nI_1 k⟩
        · rw [pk_un e]
          exact h0.2.2 j
      · rw [if_neg hf]
        exact ⟨h0.1, inv_tk h0.2.1, h0.2.2⟩
    · rw [if_neg hr]
      exact h0
  · rw [if_neg hx]
    exact h0
theorem inv_cn {cn : Nat → Int32} {t : Nat} (ht : t ≤ 512) (h : ∀ j, ∃ k : Nat, k ≤ t ∧ cn j = nI k) : ∀ j, cn j < 1000000 := fun j => by
  obtain ⟨k, hk, e⟩ := h j
  rw [e]
  exact nI_lt (a := k) (b := 1000000) (by omega) (by omega)
theorem lw_cmp {L t : Nat} (hL : L ≤ 2560) (h : 5 * t ≤ L) : nI L - 5 < nI (5 * t) ↔ L < 5 * t + 5 := by
  rw [Int32.lt_iff_toInt_lt, nI_toInt (by omega)]
  have e : (nI L - 5).toInt = (L : Int) - (5 : Nat) := pk_sub_toInt (a := L) (b := 5) (by omega) (by omega)
  rw [e]
  omega
theorem lw_in {L t k : Nat} (hL : L ≤ 2560) (h : 5 * t + k < L) : vp_in (nI (5 * t) + nI k) L := by
  rw [nI_add]
  exact vp_in_nI h (by omega)
set_option maxRecDepth 20000 in
theorem gL_law_X2_numbers : GoodIn lw_tbl (wsV RL 51 RX2 yX2_numbers wsX2_numbers) := goodIn_p _ [250, 206] rfl (by decide +kernel)
