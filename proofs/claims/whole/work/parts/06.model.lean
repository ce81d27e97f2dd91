/-! the desk as a mathematical value: n things (kind, there, answered, by place), rows (count, sum), answers, failures, six told numbers -/
abbrev dM : Type := Nat × (Nat → Int32) × (Nat → Int32) × (Nat → Int32) × (Nat → Int32) × (Nat → Int64) × (Nat → Int64) × (Nat → Int32) × Int32 × Int32 × Int32 × Int32 × Int32 × Int32
def mIx (x : Int32) : Nat := (x - 1).toNatClampNeg
def mW8 (c : Int32) : Int32 := c - c / 8 * 8
def mW4 (c : Int32) : Int32 := c - c / 4 * 4
def mRef (rc : Nat → Int32) (k o : Int32) (c : Int32) (a : Int64) : Int32 :=
  if (0 ≤ c ∧ c < 32) ∧ k = mW8 c then
    (if 0 ≤ a ∧ a ≤ 1000000 then (if o = 0 ∨ (24 ≤ c ∧ rc (mW4 c).toNatClampNeg = 0) then -5 else 0) else -4)
  else -2
def mOut (rs an : Nat → Int64) (fl : Nat → Int32) (k q : Int32) (c : Int32) (a : Int64) : Int64 :=
  if fl c.toNatClampNeg = 0 then
    (if k = 3 then (if 8 ≤ c then an c.toNatClampNeg + a + rs (mW4 c).toNatClampNeg else an c.toNatClampNeg + a) + q.toInt64
     else (if 8 ≤ c then an c.toNatClampNeg + a + rs (mW4 c).toNatClampNeg else an c.toNatClampNeg + a))
  else (-10 - fl c.toNatClampNeg).toInt64
def mTkC (rc : Nat → Int32) (c : Int32) : Nat → Int32 := if 8 ≤ c then upd rc (mW4 c).toNatClampNeg 0 else rc
def mTkS (rs : Nat → Int64) (c : Int32) : Nat → Int64 := if 8 ≤ c then vp_updL rs (mW4 c).toNatClampNeg 0 else rs
def mCnt (kd ok : Nat → Int32) (k : Int32) : Nat → Int32
  | 0 => 0
  | j + 1 => if ¬ ok j = 0 ∧ kd j = k then mCnt kd ok k j + 1 else mCnt kd ok k j
def mCollect (M : dM) (w : Int32) (v : Int64) : Int32 × dM := match M with
  | (n, kd, ok, cn, rc, rs, an, fl, t0, t1, t2, t3, t4, t5) =>
    if (0 ≤ w ∧ w < 4) ∧ rc w.toNatClampNeg < 50 then
      (rc w.toNatClampNeg + 1, (n, kd, ok, cn, upd rc w.toNatClampNeg (rc w.toNatClampNeg + 1), vp_updL rs w.toNatClampNeg (rs w.toNatClampNeg + v), an, fl, t0, t1, t2, t3, t4, t5))
    else (-1, (n, kd, ok, cn, rc, rs, an, fl, t0, t1, t2, t3, t4, t5))
def mAnswer (M : dM) (c : Int32) (v : Int64) : Int32 × dM := match M with
  | (n, kd, ok, cn, rc, rs, an, fl, t0, t1, t2, t3, t4, t5) =>
    if 0 ≤ c ∧ c < 32 then (1, (n, kd, ok, cn, rc, rs, vp_updL an c.toNatClampNeg v, fl, t0, t1, t2, t3, t4, t5))
    else (-1, (n, kd, ok, cn, rc, rs, an, fl, t0, t1, t2, t3, t4, t5))
def mFails (M : dM) (c k : Int32) : Int32 × dM := match M with
  | (n, kd, ok, cn, rc, rs, an, fl, t0, t1, t2, t3, t4, t5) =>
    if (0 ≤ c ∧ c < 32) ∧ 0 ≤ k ∧ k ≤ 6 then (fl c.toNatClampNeg, (n, kd, ok, cn, rc, rs, an, upd fl c.toNatClampNeg k, t0, t1, t2, t3, t4, t5))
    else (-1, (n, kd, ok, cn, rc, rs, an, fl, t0, t1, t2, t3, t4, t5))
def mMake (M : dM) (k : Int32) : Int32 × dM := match M with
  | (n, kd, ok, cn, rc, rs, an, fl, t0, t1, t2, t3, t4, t5) =>
    if (0 ≤ k ∧ k < 8) ∧ n < 200 then (nI (n + 1), (n + 1, upd kd n k, upd ok n 1, upd cn n 0, rc, rs, an, fl, t0, t1, t2, t3, t4, t5))
    else (-1, (n, kd, ok, cn, rc, rs, an, fl, t0, t1, t2, t3, t4, t5))
def mAgain (M : dM) (c x : Int32) (a : Int64) : Int64 := match M with
  | (n, kd, ok, cn, rc, rs, an, fl, _, _, _, _, _, _) =>
    if 1 ≤ x ∧ x ≤ nI n then
      (if mRef rc (kd (mIx x)) (ok (mIx x)) c a = 0 then mOut rs an fl (kd (mIx x)) (cn (mIx x)) c a else (mRef rc (kd (mIx x)) (ok (mIx x)) c a).toInt64)
    else (-2 : Int32).toInt64
def mCall (M : dM) (c x : Int32) (a : Int64) : Int64 × dM := match M with
  | (n, kd, ok, cn, rc, rs, an, fl, t0, t1, t2, t3, t4, t5) =>
    if 1 ≤ x ∧ x ≤ nI n then
      (if mRef rc (kd (mIx x)) (ok (mIx x)) c a = 0 then
        (mOut rs an fl (kd (mIx x)) (cn (mIx x)) c a,
          if fl c.toNatClampNeg = 0 then (n, kd, ok, upd cn (mIx x) (cn (mIx x) + 1), mTkC rc c, mTkS rs c, an, fl, t0, t1, t2, t3, t4, t5 + 1)
          else (n, kd, upd ok (mIx x) 0, cn, mTkC rc c, mTkS rs c, an, fl, fl c.toNatClampNeg, c, x, t3 + 1, t4, t5))
      else ((mRef rc (kd (mIx x)) (ok (mIx x)) c a).toInt64, (n, kd, ok, cn, rc, rs, an, fl, t0, t1, t2, t3, t4 + 1, t5)))
    else ((-2 : Int32).toInt64, (n, kd, ok, cn, rc, rs, an, fl, t0, t1, t2, t3, t4 + 1, t5))
def mTold (M : dM) (w : Int32) : Int32 := match M with
  | (_, _, _, _, _, _, _, _, t0, t1, t2, t3, t4, t5) =>
    if w = 0 then t0 else if w = 1 then t1 else if w = 2 then t2 else if w = 3 then t3 else if w = 4 then t4 else if w = 5 then t5 else -1
def mDrop (M : dM) (x : Int32) : Int32 × dM := match M with
  | (n, kd, ok, cn, rc, rs, an, fl, t0, t1, t2, t3, t4, t5) =>
    if (1 ≤ x ∧ x ≤ nI n) ∧ ¬ ok (mIx x) = 0 then (1, (n, kd, upd ok (mIx x) 0, cn, rc, rs, an, fl, t0, t1, t2, t3, t4, t5))
    else (0, (n, kd, ok, cn, rc, rs, an, fl, t0, t1, t2, t3, t4, t5))
def mNumbers (M : dM) (k : Int32) : Int32 := match M with
  | (n, kd, ok, _, _, _, _, _, _, _, _, _, _, _) => if 0 ≤ k ∧ k < 8 then mCnt kd ok k n else -1
/-! numbers: places in range -/
theorem kx_in {i B : Int32} {N : Nat} (h : 0 ≤ i ∧ i < B) (hB : B.toInt = N) : vp_in i N := by
  rw [vp_in_iff]
  have h1 := Int32.le_iff_toInt_le.mp h.1
  have h2 := Int32.lt_iff_toInt_lt.mp h.2
  rw [hB] at h2
  exact ⟨h1, h2⟩
theorem kx_c {c : Int32} (h : 0 ≤ c ∧ c < 32) : ∃ j : Nat, j < 32 ∧ c = nI j := vp_in_of (kx_in h (N := 32) (by decide)) (by decide)
theorem kx_w4 {c : Int32} (h : 0 ≤ c ∧ c < 32) : vp_in (mW4 c) 4 := by
  obtain ⟨j, hj, rfl⟩ := kx_c h
  have e : mW4 (nI j) = nI (j % 4) := pk_rem (d := 4) (by omega) (by omega) (by omega)
  rw [e]
  exact vp_in_nI (by omega) (by omega)
theorem kx_ix {n : Nat} {x : Int32} (hn : n ≤ 200) (h : 1 ≤ x ∧ x ≤ nI n) : mIx x < n ∧ x - 1 = nI (mIx x) ∧ x = nI (mIx x + 1) := by
  have h1 := Int32.le_iff_toInt_le.mp h.1
  have h0 : ¬ x < 0 := fun q => by
    have q1 := Int32.lt_iff_toInt_lt.mp q
    have e1 : (1 : Int32).toInt = 1 := by decide
    have e0 : (0 : Int32).toInt = 0 := by decide
    omega
  obtain ⟨j, hj, rfl⟩ := nI_of h0
  have h2 := (nI_leI (a := j) (b := n) hj (by omega)).mp h.2
  have h3 : 1 ≤ j := (nI_leI (a := 1) (b := j) (by omega) hj).mp h.1
  obtain ⟨i, rfl⟩ : ∃ i, j = i + 1 := ⟨j - 1, by omega⟩
  have e : mIx (nI (i + 1)) = i := by
    unfold mIx
    rw [nI_pred, nI_clamp (by omega)]
  rw [e]
  exact ⟨by omega, nI_pred i, rfl⟩
