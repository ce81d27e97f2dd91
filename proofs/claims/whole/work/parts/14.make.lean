/-- the desk's fixed cells, with any table and any number of things -/
def dXr (h qT qC qS qA qF : Nat) (cT cC cS cA cF : ClassId) (g : Nat → Option Nat) (v : Int32) (rc : Nat → Int32) (rs an : Nat → Int64) (fl : Nat → Int32) (t0 t1 t2 t3 t4 t5 : Int32) : va_W :=
  [(h, .inr (1, [.ref qT, .int v, .ref qC, .ref qS, .ref qA, .ref qF, .int t0, .int t1, .int t2, .int t3, .int t4, .int t5])),
   (qT, .inl (cT, 200, .inr (.inr (.inr (.inr g))))), (qC, .inl (cC, 4, .inl rc)), (qS, .inl (cS, 4, .inr (.inl rs))), (qA, .inl (cA, 32, .inr (.inl an))), (qF, .inl (cF, 32, .inl fl))]
theorem iwX1_make_1 : ∀ w ∈ wsX10, w ∈ wsX1_make := fun _ h => List.mem_cons_of_mem _ (List.mem_append_left _ (List.mem_append_right _ h))
theorem iwX1_make_0 : ∀ w ∈ wsX00, w ∈ wsX1_make := fun _ h => List.mem_cons_of_mem _ (List.mem_append_right _ h)
set_option maxHeartbeats 1000000 in
set_option maxRecDepth 100000 in
/-- make(k) -/
theorem c_make (l : Launch) (dC : Nat → ClassId) (dI : Nat → Nat → Nat) (h qT qC qS qA qF : Nat) (cT cC cS cA cF : ClassId) (ad : Nat → Nat) (n : Nat) (kd ok cn rc : Nat → Int32) (rs an : Nat → Int64) (fl : Nat → Int32) (t0 t1 t2 t3 t4 t5 : Int32) (hn : n ≤ 200) (sz : Nat) (k : Int32) : Met l yX1_make wsX1_make ({ frames := 2, cells := 1, slots := 3, locals := 33 }) (va_Pc [.ref h, .int k] (dQ dC dI [(cT, .object "MainframeDesk$Thing"), (cC, .int), (cS, .long), (cA, .long), (cF, .int)] (dW h qT qC qS qA qF cT cC cS cA cF ad n kd ok cn rc rs an fl t0 t1 t2 t3 t4 t5) sz)) (va_Qi (fun (r : Int32) (u : dM × (Nat → Nat)) => (r, u.1) = mMake (n, kd, ok, cn, rc, rs, an, fl, t0, t1, t2, t3, t4, t5) k) (fun u t => dAt dC dI (dWm h qT qC qS qA qF cT cC cS cA cF u.2 u.1) (va_A (dW h qT qC qS qA qF cT cC cS cA cF ad n kd ok cn rc rs an fl t0 t1 t2 t3 t4 t5) sz) t) (va_A (dW h qT qC qS qA qF cT cC cS cA cF ad n kd ok cn rc rs an fl t0 t1 t2 t3 t4 t5) sz)) 1 3 (va_A (dW h qT qC qS qA qF cT cC cS cA cF ad n kd ok cn rc rs an fl t0 t1 t2 t3 t4 t5) sz) := by
  refine Met.ofW (cc := cX1_make) (maxL := 2) (ret := (some .int)) (by decide) rfl ?_
  intro p e s m args below meth c s₁ B hml hv
  obtain ⟨rfl, hsz, hP, hK, hD0, hN⟩ := hv
  have hx := B.exec
  have hb := B.bytes
  have hr := B.returns
  have hts := atoms_spec (ws := wsX1_make) B.pre
  have hown : s.vm.findClass RX1 = some m.cls := findClass_of_methodNamed B.named
  have hlocks := B.notSynchronized
  subst hsz
  have hD := hD0.self (sz := s.heap.size)
  generalize hAe : va_A (dW h qT qC qS qA qF cT cC cS cA cF ad n kd ok cn rc rs an fl t0 t1 t2 t3 t4 t5) s.heap.size = A at hD ⊢
  have hA : ∀ q : Nat, s.heap.size ≤ q → A q := fun q h => by rw [← hAe]; exact Or.inr h
  have hS : va_S A s.heap s.heap [] := va_S.rf
  have hl := lv_entry ([.ref h, .int k]) (n := 2) (Nat.le_of_ble_eq_true rfl)
  rw [lg_entry_eq]
  generalize (lg_sl ([.ref h, .int k]) ++ List.replicate (2 - (lg_sl ([.ref h, .int k])).length) Slot.unset).toArray = ls at hl ⊢
  have hl : lv_has ls 2 [(0, .ref h), (1, .int k)] := hl
  refine lv_iload_n hx hb dX1_make_0 rfl (lv_at hl 1 rfl) ?_
  refine lv_bipush (v := 8) hx hb dX1_make_1 (by decide) ?_
  refine vp_callSi (W.runS (As := [.int k, .int 8]) (rest := []) ⟨hx, hb, hml, hown, hts⟩ (c_isWithin l k 8) (va_cwS 2 hts gX1_make_X1_isWithin rfl rfl rfl (by decide +kernel) ⟨Nat.le_of_ble_eq_true rfl, Nat.le_of_ble_eq_true rfl⟩) ⟨fun _ _ _ _ q => q, fun _ _ _ => ⟨rfl, trivial⟩⟩ rfl rfl hl.1 rfl (lv_room (Nat.le_of_ble_eq_true rfl)) dX1_make_3 ⟨Nat.le_of_ble_eq_true rfl, Nat.le_of_ble_eq_true rfl⟩) (fun r9 hr9 => ?_)
  rcases hr9 with ⟨hq_87, rfl⟩ | ⟨hq_87, rfl⟩
  · refine lv_if_eq (tgt := 19) hx hb dX1_make_6 (by decide) (fun h => absurd h (by decide)) (fun _ => ?_)
    refine lv_aload_n hx hb dX1_make_9 rfl (lv_at hl 0 rfl) ?_
    refine va_get (D := (dC, dI)) (ci := 1) (v := .int (nI n)) (C := RX1) (T := TX1) (N := 12) hx hb hts iwX1_make_1 hown hK hP 0 rfl rfl 1 (by decide) (hts (.fieldLink RX1 15 "MainframeDesk" "made" "I") (by decide +kernel)) (fun _ h9 => h9) rfl dX1_make_10 ?_
    refine lv_sipush (v := 200) hx hb dX1_make_13 (by decide) ?_
    refine lv_icmp_lt (tgt := 21) hx hb dX1_make_16 (by decide) (fun c_89 => ?_) (fun c_89 => ?_)
    · have hn2 : n < 200 := (nI_ltI (a := n) (b := 200) (by omega) (by omega)).mp c_89
      refine lv_aload_n hx hb dX1_make_21 rfl (lv_at hl 0 rfl) ?_
      refine va_get (D := (dC, dI)) (ci := 1) (v := .ref qT) (C := RX1) (T := TX1) (N := 12) hx hb hts iwX1_make_1 hown hK hP 0 rfl rfl 0 (by decide) (hts (.fieldLink RX1 11 "MainframeDesk" "things" "[LMainframeDesk$Thing;") (by decide +kernel)) (fun _ h9 => h9) rfl dX1_make_22 ?_
      refine lv_aload_n hx hb dX1_make_25 rfl (lv_at hl 0 rfl) ?_
      refine va_get (D := (dC, dI)) (ci := 1) (v := .int (nI n)) (C := RX1) (T := TX1) (N := 12) hx hb hts iwX1_make_1 hown hK hP 0 rfl rfl 1 (by decide) (hts (.fieldLink RX1 15 "MainframeDesk" "made" "I") (by decide +kernel)) (fun _ h9 => h9) rfl dX1_make_26 ?_
      refine va_new (ci := 0) (fs := [.int 0, .int 0, .int 0]) (C := RX0) (T := TX0) (N := 3) hx hb hts iwX1_make_0 tyX0 tyX0_ok hown (hts (.classLink RX1 9 RX0) (by decide +kernel)) (hts (.instantiable RX0 3) (by decide +kernel)) (hts (.initialized RX0) (by decide +kernel)) hK hP hD hS hA rfl (fun j hj => by rcases (show j = 0 ∨ j = 1 ∨ j = 2 by omega) with rfl | rfl | rfl <;> rfl) (Nat.le_of_ble_eq_true rfl) (Nat.le_of_ble_eq_true rfl) dX1_make_29 (fun q H hP hD hS => ?_)
      have hP : va_P (dC, dI) vwCl (dW h qT qC qS qA qF cT cC cS cA cF ad n kd ok cn rc rs an fl t0 t1 t2 t3 t4 t5 ++ [(q, .inr (0, [.int 0, .int 0, .int 0]))]) H := hP
      have hD : va_D A (dW h qT qC qS qA qF cT cC cS cA cF ad n kd ok cn rc rs an fl t0 t1 t2 t3 t4 t5 ++ [(q, .inr (0, [.int 0, .int 0, .int 0]))]) := hD
      refine lv_dup hx hb dX1_make_32 rfl ?_
      refine lv_iload_n hx hb dX1_make_33 rfl (lv_at hl 1 rfl) ?_
      have hPc := kx_P2 hP
      have hDc := kx_D2 hD
      have hFc := kx_fr hDc hS hA
      have hKc := hK.sub (tys' := []) [] rfl
      refine va_callv (va_runIN (As := [.int k]) (rest := [.ref q, .int (nI n), .ref qT]) ⟨hx, hb, hml, hown, hts⟩ (c_thing l dC dI q H.size k) ⟨va_cnB 1 hts gX1_make_X0_init_n55 rfl rfl rfl hN.2.2.2 (hts (.initialized RX0) (by decide +kernel)) (by decide +kernel) ⟨Nat.le_of_ble_eq_true rfl, Nat.le_of_ble_eq_true rfl⟩, rfl, hts (.instanceMethod yX0_init) (by decide +kernel)⟩ ⟨fun a U g mk q => by obtain ⟨q0, q1, qP, qK, qD⟩ := q; exact ⟨q0, q1, qP, va_K.moved (u := U) (U := U.calling g mk a) (Vm.Alike.refl U.vm) qK, qD⟩, fun U hU hW => ⟨rfl, by rw [hU], by rw [hU]; exact hPc, va_K.moved hW.alike hKc, hDc.weaken (fun _ _ _ _ => trivial)⟩⟩ rfl rfl hl.1 rfl (lv_room (Nat.le_of_ble_eq_true rfl)) dX1_make_34 ⟨Nat.le_of_ble_eq_true rfl, Nat.le_of_ble_eq_true rfl⟩) hS (fun q _ h => hFc q h) hFc (fun u t H1 locs ht hvm hw hB hz1 hk1 hS => ?_)
      obtain ⟨hP1, hD1⟩ := hB
      rw [ht] at hP1
      obtain ⟨hPd, hDd⟩ := kx_jn (kx_P1 hP) (kx_Dc hD) hk1 hFc hD1
      have hP : va_P (dC, dI) vwCl (dW h qT qC qS qA qF cT cC cS cA cF ad n kd ok cn rc rs an fl t0 t1 t2 t3 t4 t5 ++ [(q, .inr (0, [.int k, .int 1, .int 0]))]) H1 := va_P.app hPd hP1
      have hD : va_D A (dW h qT qC qS qA qF cT cC cS cA cF ad n kd ok cn rc rs an fl t0 t1 t2 t3 t4 t5 ++ [(q, .inr (0, [.int k, .int 1, .int 0]))]) := kx_Dc hDd
      have hz9 : vp_in (nI n) 200 := vp_in_nI hn2 (by omega)
      have hz8 : (nI n).toNatClampNeg = n := nI_clamp (by omega)
      refine va_astq (r := (RX0, TX0, 3)) hx hb hK hP hD hS 1 0 _ 0 rfl rfl (kx_ar (k := 0) rfl) rfl hz9 dX1_make_37 (fun H locs hP hD hS => ?_)
      rw [hz8, dTh_up] at hP hD
      have hP : va_P (dC, dI) vwCl (dXr h qT qC qS qA qF cT cC cS cA cF (dTh (n + 1) (va_up ad n q)) (nI n) rc rs an fl t0 t1 t2 t3 t4 t5 ++ kx_pl n (dF ad kd ok cn) ++ [(q, .inr (0, [.int k, .int 1, .int 0]))]) H := hP
      have hD : va_D A (dXr h qT qC qS qA qF cT cC cS cA cF (dTh (n + 1) (va_up ad n q)) (nI n) rc rs an fl t0 t1 t2 t3 t4 t5 ++ kx_pl n (dF ad kd ok cn) ++ [(q, .inr (0, [.int k, .int 1, .int 0]))]) := hD
      refine lv_aload_n hx hb dX1_make_38 rfl (lv_at hl 0 rfl) ?_
      refine lv_dup hx hb dX1_make_39 rfl ?_
      refine va_get (D := (dC, dI)) (ci := 1) (v := .int (nI n)) (C := RX1) (T := TX1) (N := 12) hx hb hts iwX1_make_1 hown hK hP 0 rfl rfl 1 (by decide) (hts (.fieldLink RX1 15 "MainframeDesk" "made" "I") (by decide +kernel)) (fun _ h9 => h9) rfl dX1_make_40 ?_
      refine lv_iconst (v := 1) hx hb dX1_make_43 (by decide) ?_
      refine lv_iadd hx hb dX1_make_44 ?_
      rw [nI_1 n]
      refine va_put (D := (dC, dI)) (ci := 1) (v := .int (nI (n + 1))) (ty := .int) (C := RX1) (T := TX1) (N := 12) hx hb hts iwX1_make_1 tyX1 tyX1_ok nmX1 hown hK hP hD hS 0 rfl rfl 1 (by decide) (hts (.fieldLink RX1 15 "MainframeDesk" "made" "I") (by decide +kernel)) (fun _ h9 => h9) rfl (by decide +kernel) rfl rfl (Nat.le_of_ble_eq_true rfl) dX1_make_45 (fun H locs hP hD hS => ?_)
      have hP : va_P (dC, dI) vwCl (dW h qT qC qS qA qF cT cC cS cA cF (va_up ad n q) (n + 1) (upd kd n k) (upd ok n 1) (upd cn n 0) rc rs an fl t0 t1 t2 t3 t4 t5) H := by rw [← dW_push]; exact hP
      have hD : va_D A (dW h qT qC qS qA qF cT cC cS cA cF (va_up ad n q) (n + 1) (upd kd n k) (upd ok n 1) (upd cn n 0) rc rs an fl t0 t1 t2 t3 t4 t5) := by rw [← dW_push]; exact hD
      refine lv_aload_n hx hb dX1_make_48 rfl (lv_at hl 0 rfl) ?_
      refine va_get (D := (dC, dI)) (ci := 1) (v := .int (nI (n + 1))) (C := RX1) (T := TX1) (N := 12) hx hb hts iwX1_make_1 hown hK hP 0 rfl rfl 1 (by decide) (hts (.fieldLink RX1 15 "MainframeDesk" "made" "I") (by decide +kernel)) (fun _ h9 => h9) rfl dX1_make_49 ?_
      exact W.iret (v := nI (n + 1)) hx hb hr (fun t ht hW => ⟨⟨_, ((n + 1, upd kd n k, upd ok n 1, upd cn n 0, rc, rs, an, fl, t0, t1, t2, t3, t4, t5), va_up ad n q), rfl, (if_pos ⟨hq_87, hn2⟩).symm, by rw [ht]; exact hP, hD⟩, hS.F ht⟩) hS.2.2 dX1_make_52
    · refine lv_iconst (v := (-1)) hx hb dX1_make_19 (by decide) ?_
      refine W.widen (k := 1) (n := 3) (Nat.le_of_ble_eq_true rfl) (Nat.le_of_ble_eq_true rfl) ?_
      exact W.iret (v := (-1)) hx hb hr (fun t ht hW => ⟨⟨_, ((n, kd, ok, cn, rc, rs, an, fl, t0, t1, t2, t3, t4, t5), ad), rfl, (if_neg (fun q => c_89 ((nI_ltI (a := n) (b := 200) (by omega) (by omega)).mpr q.2))).symm, by rw [ht]; exact hP, hD⟩, hS.F ht⟩) hS.2.2 dX1_make_20
  · refine lv_if_eq (tgt := 19) hx hb dX1_make_6 (by decide) (fun _ => ?_) (fun h => absurd h (by decide))
    refine lv_iconst (v := (-1)) hx hb dX1_make_19 (by decide) ?_
    refine W.widen (k := 1) (n := 3) (Nat.le_of_ble_eq_true rfl) (Nat.le_of_ble_eq_true rfl) ?_
    exact W.iret (v := (-1)) hx hb hr (fun t ht hW => ⟨⟨_, ((n, kd, ok, cn, rc, rs, an, fl, t0, t1, t2, t3, t4, t5), ad), rfl, (if_neg (fun q => hq_87 q.1)).symm, by rw [ht]; exact hP, hD⟩, hS.F ht⟩) hS.2.2 dX1_make_20
