/-! the reference's cells -/
def mL (cn : Nat → Int32) : Nat → Int64 := fun j => (cn j).toInt64
def rW (h qs qm qa qf qk qt qd : Nat) (cs cm ca cf ck ct cd : ClassId) (n : Nat) (kd ok cn rc : Nat → Int32) (rs an : Nat → Int64) (fl : Nat → Int32) (t0 t1 t2 t3 t4 t5 th wy : Int32) : va_W :=
  [(h, .inr (2, [.ref qs, .ref qm, .ref qa, .ref qf, .ref qk, .ref qt, .ref qd, .int (nI n), .int th, .int t0, .int t1, .int t2, .int t3, .int t4, .int t5, .int wy])),
   (qs, .inl (cs, 4, .inr (.inl rs))), (qm, .inl (cm, 4, .inl rc)), (qa, .inl (ca, 32, .inr (.inl an))), (qf, .inl (cf, 32, .inl fl)), (qk, .inl (ck, 200, .inl kd)), (qt, .inl (ct, 200, .inl ok)), (qd, .inl (cd, 200, .inr (.inl (mL cn))))]
def rWm (h qs qm qa qf qk qt qd : Nat) (cs cm ca cf ck ct cd : ClassId) (u : dM × Int32 × Int32) : va_W := match u with
  | ((n, kd, ok, cn, rc, rs, an, fl, t0, t1, t2, t3, t4, t5), th, wy) => rW h qs qm qa qf qk qt qd cs cm ca cf ck ct cd n kd ok cn rc rs an fl t0 t1 t2 t3 t4 t5 th wy
def rP (dC : Nat → ClassId) (dI : Nat → Nat → Nat) (tys : List (ClassId × FieldType)) (ws : va_W) (U : State) : Prop := va_P (dC, dI) vwCl ws U.heap ∧ va_K (dC, dI) vwCl tys U
def rQ (dC : Nat → ClassId) (dI : Nat → Nat → Nat) (tys : List (ClassId × FieldType)) (ws : va_W) (sz : Nat) (U : State) : Prop := U.heap.size = sz ∧ va_P (dC, dI) vwCl ws U.heap ∧ va_K (dC, dI) vwCl tys U ∧ va_D (fun _ => True) ws
theorem rP_bl {dC : Nat → ClassId} {dI : Nat → Nat → Nat} {tys : List (ClassId × FieldType)} {ws : va_W} {av : List Value} : FrameBlind (va_Pc av (rP dC dI tys ws)) := fun _ U g mk q => ⟨q.1, q.2.1, va_K.moved (u := U) (Vm.Alike.refl U.vm) q.2.2⟩
theorem rQ_bl {dC : Nat → ClassId} {dI : Nat → Nat → Nat} {tys : List (ClassId × FieldType)} {ws : va_W} {sz : Nat} {av : List Value} : FrameBlind (va_Pc av (rQ dC dI tys ws sz)) := fun _ U g mk q => ⟨q.1, q.2.1, q.2.2.1, va_K.moved (u := U) (Vm.Alike.refl U.vm) q.2.2.2.1, q.2.2.2.2⟩
theorem rP_at {dC : Nat → ClassId} {dI : Nat → Nat → Nat} {tys : List (ClassId × FieldType)} {ws : va_W} {s U : State} {H : Heap} (hU : U.heap = H) (hW : s.WarmedH U.vm) (hP : va_P (dC, dI) vwCl ws H) (hK : va_K (dC, dI) vwCl tys s) : rP dC dI tys ws U := ⟨by rw [hU]; exact hP, va_K.moved hW.alike hK⟩
theorem rQ_at {dC : Nat → ClassId} {dI : Nat → Nat → Nat} {tys : List (ClassId × FieldType)} {ws : va_W} {A : Nat → Prop} {s U : State} {H : Heap} (hU : U.heap = H) (hW : s.WarmedH U.vm) (hP : va_P (dC, dI) vwCl ws H) (hK : va_K (dC, dI) vwCl tys s) (hD : va_D A ws) : rQ dC dI tys ws H.size U := ⟨by rw [hU], by rw [hU]; exact hP, va_K.moved hW.alike hK, hD.weaken (fun _ _ _ _ => trivial)⟩
theorem kx_nb0 : vp_nar .boolean 0 = 0 := by decide +kernel
theorem kx_nb1 : vp_nar .boolean 1 = 1 := by decide +kernel
theorem mL_0 {cn : Nat → Int32} {i : Nat} : vp_updL (mL cn) i 0 = mL (upd cn i 0) := by
  funext j
  by_cases h : j = i
  · subst h
    rw [pk_uLs]
    unfold mL
    rw [pk_us]
    rfl
  · rw [pk_uLn h]
    unfold mL
    rw [pk_un h]
theorem kx_l1 {x : Int32} (h : x < 1000000) : x.toInt64 + 1 = (x + 1).toInt64 := by
  have h1 := Int32.lt_iff_toInt_lt.mp h
  have e1 : (1000000 : Int32).toInt = 1000000 := by decide
  rw [e1] at h1
  have h2 := Int32.le_toInt x
  have e2 : (x + 1).toInt = x.toInt + 1 := by
    rw [Int32.toInt_add]
    have e3 : (1 : Int32).toInt = 1 := by decide
    rw [e3]
    exact Int.bmod_eq_of_le (by omega) (by omega)
  apply Int64.toInt_inj.mp
  rw [Int64.toInt_add, Int32.toInt_toInt64, Int32.toInt_toInt64, e2]
  have e4 : (1 : Int64).toInt = 1 := by decide
  rw [e4]
  exact Int.bmod_eq_of_le (by omega) (by omega)
theorem mL_up {cn : Nat → Int32} {i : Nat} (h : cn i < 1000000) : vp_updL (mL cn) i (mL cn i + 1) = mL (upd cn i (cn i + 1)) := by
  funext j
  by_cases e : j = i
  · subst e
    rw [pk_uLs]
    unfold mL
    rw [pk_us]
    exact kx_l1 h
  · rw [pk_uLn e]
    unfold mL
    rw [pk_un e]
/-! the reference's words for a call -/
def mRefX (n : Nat) (kd ok rc : Nat → Int32) (c x : Int32) (a : Int64) : Int32 := if 1 ≤ x ∧ x ≤ nI n then mRef rc (kd (mIx x)) (ok (mIx x)) c a else -2
def mWay (M : dM) (c x : Int32) (a : Int64) : Int32 := match M with
  | (n, kd, ok, _, rc, _, _, fl, _, _, _, _, _, _) => if mRefX n kd ok rc c x a = 0 then (if fl c.toNatClampNeg = 0 then 0 else 1) else 2
theorem kx_x0 {n : Nat} {kd ok rc : Nat → Int32} {c x : Int32} {a : Int64} (h : mRefX n kd ok rc c x a = 0) : (1 ≤ x ∧ x ≤ nI n) ∧ mRef rc (kd (mIx x)) (ok (mIx x)) c a = 0 := by
  unfold mRefX at h
  by_cases hx : 1 ≤ x ∧ x ≤ nI n
  · rw [if_pos hx] at h
    exact ⟨hx, h⟩
  · rw [if_neg hx] at h
    exact absurd h (by decide)
theorem kx_w4n {c : Int32} (h : 0 ≤ c ∧ c < 32) : ¬ mW4 c = -1 := fun e => by
  have h1 := kx_w4 h
  rw [e] at h1
  exact h1 (Or.inl (by decide))
theorem kx_ix2 {n : Nat} {x : Int32} (hn : n ≤ 200) (h : 1 ≤ x ∧ x ≤ nI n) : vp_in (x - 1) 200 := by
  obtain ⟨h1, h2, -⟩ := kx_ix hn h
  rw [h2]
  exact vp_in_nI (by omega) (by omega)
