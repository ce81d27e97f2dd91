/-! the desk's cells -/
def dTh (n : Nat) (ad : Nat → Nat) : Nat → Option Nat := fun i => if i < n then some (ad i) else none
def dX (h qT qC qS qA qF : Nat) (cT cC cS cA cF : ClassId) (ad : Nat → Nat) (n : Nat) (rc : Nat → Int32) (rs an : Nat → Int64) (fl : Nat → Int32) (t0 t1 t2 t3 t4 t5 : Int32) : va_W :=
  [(h, .inr (1, [.ref qT, .int (nI n), .ref qC, .ref qS, .ref qA, .ref qF, .int t0, .int t1, .int t2, .int t3, .int t4, .int t5])),
   (qT, .inl (cT, 200, .inr (.inr (.inr (.inr (dTh n ad)))))), (qC, .inl (cC, 4, .inl rc)), (qS, .inl (cS, 4, .inr (.inl rs))), (qA, .inl (cA, 32, .inr (.inl an))), (qF, .inl (cF, 32, .inl fl))]
def dF (ad : Nat → Nat) (kd ok cn : Nat → Int32) : Nat → Nat × va_E := fun i => (ad i, .inr (0, [.int (kd i), .int (ok i), .int (cn i)]))
def dW (h qT qC qS qA qF : Nat) (cT cC cS cA cF : ClassId) (ad : Nat → Nat) (n : Nat) (kd ok cn rc : Nat → Int32) (rs an : Nat → Int64) (fl : Nat → Int32) (t0 t1 t2 t3 t4 t5 : Int32) : va_W :=
  dX h qT qC qS qA qF cT cC cS cA cF ad n rc rs an fl t0 t1 t2 t3 t4 t5 ++ kx_pl n (dF ad kd ok cn)
def dWm (h qT qC qS qA qF : Nat) (cT cC cS cA cF : ClassId) (ad : Nat → Nat) (M : dM) : va_W := match M with
  | (n, kd, ok, cn, rc, rs, an, fl, t0, t1, t2, t3, t4, t5) => dW h qT qC qS qA qF cT cC cS cA cF ad n kd ok cn rc rs an fl t0 t1 t2 t3 t4 t5
section DSK
variable {h qT qC qS qA qF : Nat} {cT cC cS cA cF : ClassId} {ad : Nat → Nat} {n : Nat} {kd ok cn rc : Nat → Int32} {rs an : Nat → Int64} {fl : Nat → Int32} {t0 t1 t2 t3 t4 t5 : Int32} {j : Nat} {x : Int32}
theorem dW_at (hj : j < n) : (dW h qT qC qS qA qF cT cC cS cA cF ad n kd ok cn rc rs an fl t0 t1 t2 t3 t4 t5)[6 + j]? = some (ad j, .inr (0, [.int (kd j), .int (ok j), .int (cn j)])) := kx_pl_get (X := dX h qT qC qS qA qF cT cC cS cA cF ad n rc rs an fl t0 t1 t2 t3 t4 t5) (f := dF ad kd ok cn) hj
theorem dW_set_ok (hj : j < n) : (dW h qT qC qS qA qF cT cC cS cA cF ad n kd ok cn rc rs an fl t0 t1 t2 t3 t4 t5).set (6 + j) (ad j, .inr (0, [.int (kd j), .int x, .int (cn j)])) = dW h qT qC qS qA qF cT cC cS cA cF ad n kd (upd ok j x) cn rc rs an fl t0 t1 t2 t3 t4 t5 :=
  kx_pl_set (X := dX h qT qC qS qA qF cT cC cS cA cF ad n rc rs an fl t0 t1 t2 t3 t4 t5) (f := dF ad kd ok cn) (g := dF ad kd (upd ok j x) cn) hj (by simp only [dF, pk_us]) (fun i hi => by simp only [dF, pk_un hi])
theorem dW_set_cn (hj : j < n) : (dW h qT qC qS qA qF cT cC cS cA cF ad n kd ok cn rc rs an fl t0 t1 t2 t3 t4 t5).set (6 + j) (ad j, .inr (0, [.int (kd j), .int (ok j), .int x])) = dW h qT qC qS qA qF cT cC cS cA cF ad n kd ok (upd cn j x) rc rs an fl t0 t1 t2 t3 t4 t5 :=
  kx_pl_set (X := dX h qT qC qS qA qF cT cC cS cA cF ad n rc rs an fl t0 t1 t2 t3 t4 t5) (f := dF ad kd ok cn) (g := dF ad kd ok (upd cn j x)) hj (by simp only [dF, pk_us]) (fun i hi => by simp only [dF, pk_un hi])
theorem dTh_up (q : Nat) : va_up (dTh n ad) n (some q) = dTh (n + 1) (va_up ad n q) := by
  funext i
  unfold dTh va_up
  by_cases h1 : i = n
  · subst h1
    rw [if_pos rfl, if_pos (by omega), if_pos rfl]
  · rw [if_neg h1, if_neg h1]
    show (if i < n then some (ad i) else none) = if i < n + 1 then some (ad i) else none
    by_cases h2 : i < n
    · rw [if_pos h2, if_pos (by omega)]
    · rw [if_neg h2, if_neg (by omega)]
theorem dW_push (q : Nat) (k : Int32) : dX h qT qC qS qA qF cT cC cS cA cF (va_up ad n q) (n + 1) rc rs an fl t0 t1 t2 t3 t4 t5 ++ kx_pl n (dF ad kd ok cn) ++ [(q, .inr (0, [.int k, .int 1, .int 0]))] = dW h qT qC qS qA qF cT cC cS cA cF (va_up ad n q) (n + 1) (upd kd n k) (upd ok n 1) (upd cn n 0) rc rs an fl t0 t1 t2 t3 t4 t5 := by
  unfold dW
  rw [List.append_assoc, kx_pl_push (f := dF ad kd ok cn) (g := dF (va_up ad n q) (upd kd n k) (upd ok n 1) (upd cn n 0))]
  · simp only [dF, pk_us, va_up_self]
  · intro i hi
    have hne : i ≠ n := Nat.ne_of_lt hi
    simp only [dF, pk_un hne, va_up_ne _ _ hne]
end DSK
/-! what the tables say of the members of things that the desk uses -/
def dNw (U : State) : Prop := va_Nw (.fieldLinkNest RX1 84 "MainframeDesk$Thing" "kind" "I" "MainframeDesk") U ∧ va_Nw (.fieldLinkNest RX1 76 "MainframeDesk$Thing" "there" "Z" "MainframeDesk") U ∧ va_Nw (.fieldLinkNest RX1 73 "MainframeDesk$Thing" "answered" "I" "MainframeDesk") U ∧ va_Nw (.methodLinkNest RX1 55 yX0_init "MainframeDesk") U
theorem dNw_same {u U : State} (h : u.vm = U.vm) (hN : dNw u) : dNw U := ⟨va_Nw.same rfl h hN.1, va_Nw.same rfl h hN.2.1, va_Nw.same rfl h hN.2.2.1, va_Nw.same rfl h hN.2.2.2⟩
theorem dNw_warm {s U : State} (hW : s.WarmedH U.vm) (hN : dNw s) : dNw U := ⟨va_Nw.warmF hW hN.1, va_Nw.warmF hW hN.2.1, va_Nw.warmF hW hN.2.2.1, va_Nw.warmM hW hN.2.2.2⟩
theorem dNw_fkind {s : State} {args : Array Value} (hN : dNw s) : (Cond.fieldLinkNest RX1 84 "MainframeDesk$Thing" "kind" "I" "MainframeDesk").before args s = true := va_Nw.use rfl hN.1
theorem dNw_fthere {s : State} {args : Array Value} (hN : dNw s) : (Cond.fieldLinkNest RX1 76 "MainframeDesk$Thing" "there" "Z" "MainframeDesk").before args s = true := va_Nw.use rfl hN.2.1
theorem dNw_fanswered {s : State} {args : Array Value} (hN : dNw s) : (Cond.fieldLinkNest RX1 73 "MainframeDesk$Thing" "answered" "I" "MainframeDesk").before args s = true := va_Nw.use rfl hN.2.2.1
/-! what a method of the desk is given: for those that write nothing, and for those that do -/
def dP (dC : Nat → ClassId) (dI : Nat → Nat → Nat) (tys : List (ClassId × FieldType)) (ws : va_W) (U : State) : Prop := va_P (dC, dI) vwCl ws U.heap ∧ va_K (dC, dI) vwCl tys U ∧ dNw U
def dQ (dC : Nat → ClassId) (dI : Nat → Nat → Nat) (tys : List (ClassId × FieldType)) (ws : va_W) (sz : Nat) (U : State) : Prop := U.heap.size = sz ∧ va_P (dC, dI) vwCl ws U.heap ∧ va_K (dC, dI) vwCl tys U ∧ va_D (fun _ => True) ws ∧ dNw U
theorem dP_bl {dC : Nat → ClassId} {dI : Nat → Nat → Nat} {tys : List (ClassId × FieldType)} {ws : va_W} {av : List Value} : FrameBlind (va_Pc av (dP dC dI tys ws)) := fun _ U g mk q => ⟨q.1, q.2.1, va_K.moved (u := U) (Vm.Alike.refl U.vm) q.2.2.1, dNw_same rfl q.2.2.2⟩
theorem dQ_bl {dC : Nat → ClassId} {dI : Nat → Nat → Nat} {tys : List (ClassId × FieldType)} {ws : va_W} {sz : Nat} {av : List Value} : FrameBlind (va_Pc av (dQ dC dI tys ws sz)) := fun _ U g mk q => ⟨q.1, q.2.1, q.2.2.1, va_K.moved (u := U) (Vm.Alike.refl U.vm) q.2.2.2.1, q.2.2.2.2.1, dNw_same rfl q.2.2.2.2.2⟩
theorem dP_at {dC : Nat → ClassId} {dI : Nat → Nat → Nat} {tys : List (ClassId × FieldType)} {ws : va_W} {s U : State} {H : Heap} (hU : U.heap = H) (hW : s.WarmedH U.vm) (hP : va_P (dC, dI) vwCl ws H) (hK : va_K (dC, dI) vwCl tys s) (hN : dNw s) : dP dC dI tys ws U := ⟨by rw [hU]; exact hP, va_K.moved hW.alike hK, dNw_warm hW hN⟩
theorem dQ_at {dC : Nat → ClassId} {dI : Nat → Nat → Nat} {tys : List (ClassId × FieldType)} {ws : va_W} {A : Nat → Prop} {s U : State} {H : Heap} (hU : U.heap = H) (hW : s.WarmedH U.vm) (hP : va_P (dC, dI) vwCl ws H) (hK : va_K (dC, dI) vwCl tys s) (hD : va_D A ws) (hN : dNw s) : dQ dC dI tys ws H.size U := ⟨by rw [hU], by rw [hU]; exact hP, va_K.moved hW.alike hK, hD.weaken (fun _ _ _ _ => trivial), dNw_warm hW hN⟩
/-- the cells behind a method that wrote -/
def dAt (dC : Nat → ClassId) (dI : Nat → Nat → Nat) (ws : va_W) (A : Nat → Prop) (t : State) : Prop := va_P (dC, dI) vwCl ws t.heap ∧ va_D A ws
