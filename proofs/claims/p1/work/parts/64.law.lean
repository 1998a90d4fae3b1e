theorem law_over7 {p : Program} {l : Launch} {e : Env} {s : State} {m : MethodId} {below : List Frame} {meth : Method} {c : Code} {A : Nat → Prop} {b : Nat} {xs : Nat → Int32} (C0 : lw_At p s m meth c b 6 xs) (hAd : A = fun q : Nat => s.heap.size ≤ q) {oX oM oJ : Nat} {H : Heap} {locs : List Loc} {ls : Array Slot} (hS : va_S A s.heap H locs) (hl : lv_has ls 7 [(0, .ref b), (1, .ref oX), (2, .ref oM), (3, .ref oJ), (4, .int 0)]) : W p l e room_1 s m #[Value.ref b] below meth c H locs 91 172231 (lw_Z below #[Value.ref b] s) (F0 m 1050 ls []) := by
  obtain ⟨hx, hb, hr, hml, hown, hts0, hX, hbl, hlocks, hgv⟩ := id C0
  have hbA : ¬ A b := by rw [hAd]; exact Nat.not_le.mpr hbl
  refine lv_iinc (v := 6) (lv' := [(4, .int 6), (0, .ref b), (1, .ref oX), (2, .ref oM), (3, .ref oJ)]) hx hb dL_law_1050 hl (k := 4) rfl (by decide) (by decide) rfl (fun ls hl => ?_)
  refine lv_goto (tgt := 23) hx hb dL_law_1053 (by decide) ?_
  refine lv_iload hx hb dL_law_23 (lv_at hl 0 rfl) ?_
  refine lv_aload_n hx hb dL_law_25 rfl (lv_at hl 1 rfl) ?_
  refine va_slen hx hb hX hbl hbA hS dL_law_26 ?_
  refine lv_bipush (v := 6) hx hb dL_law_27 (by decide) ?_
  refine lv_isub hx hb dL_law_29 ?_
  refine lv_icmp_gt (tgt := 1056) hx hb dL_law_30 (by decide) (fun c_1 => ?_) (fun c_1 => absurd (by decide) c_1)
  refine lv_iconst (v := 1) hx hb dL_law_1056 (by decide) ?_
  refine va_forget (fun q hq => by have h9 := hS.2.2 q hq; rw [hAd] at h9; exact h9) ?_
  refine W.widen (k := 600002) (n := 7302232) (by decide) (by decide) ?_
  exact lw_ret hx hb hr hlocks dL_law_1057

set_option maxHeartbeats 4000000 in
set_option maxRecDepth 100000 in
theorem law_at {p : Program} {l : Launch} {e : Env} {s : State} {m : MethodId} {below : List Frame} {meth : Method} {c : Code} {dC : Nat → ClassId} {dI : Nat → Nat → Nat} {cI cS : ClassId} {A : Nat → Prop} {b : Nat} {xs : Nat → Int32} (C0 : lw_At p s m meth c b 6 xs) (hAd : A = fun q : Nat => s.heap.size ≤ q) (hst : l.stackTraces = false) {sa : Nat} (hcast : p_Dw s) (hstr : vk_R RX11 162 "no such letter" sa s) (hU : vx_Zq Bundle.tN "UNASSIGNED_STACK" Bundle.steD A s s.heap) (hN : vx_Zq Bundle.tN "SUPPRESSED_SENTINEL" Bundle.listD A s s.heap) (hK : va_K (dC, dI) vwCl [(cI, .int), (cS, .short)] s) {oX nT nL nM oC oP oH oK oG oR oQ oW aL oM mT mS mX mL mB mD m1 m2 mR x1 x2 x3 mH mY mE mW mO y1 y2 y3 y4 mZ oJ : Nat} {H : Heap} {locs : List Loc} {ls : Array Slot} (hP : va_P (dC, dI) vwCl [(oX, .inr (11, [.ref nT, .ref nL, .ref nM, .ref oC, .ref oP, .ref oH, .ref oK, .ref oG, .ref oR, .ref oQ, .ref oW, .int (-1)])), (nL, .inr (5, [.ref aL, .int 0])), (oM, .inr (12, [.ref mT, .int 0, .ref mS, .ref mX, .int 0, .int 0, .ref mL, .ref mB, .ref mD, .ref m1, .ref m2, .int 0, .ref mR, .int 0, .ref x1, .ref x2, .ref x3, .int 0, .ref mH, .int 0, .int 0, .int 0, .int 0, .int (-1), .int (-1), .int 0, .ref mY, .int 0, .ref mE, .int 0, .int 0, .ref mW, .int 0, .ref mO, .int 0, .ref y1, .ref y2, .ref y3, .ref y4, .ref mZ])), (mS, .inl (cI, 21, .inl (fun _ => 0)))] H) (hD : va_D A [(oX, .inr (11, [.ref nT, .ref nL, .ref nM, .ref oC, .ref oP, .ref oH, .ref oK, .ref oG, .ref oR, .ref oQ, .ref oW, .int (-1)])), (nL, .inr (5, [.ref aL, .int 0])), (oM, .inr (12, [.ref mT, .int 0, .ref mS, .ref mX, .int 0, .int 0, .ref mL, .ref mB, .ref mD, .ref m1, .ref m2, .int 0, .ref mR, .int 0, .ref x1, .ref x2, .ref x3, .int 0, .ref mH, .int 0, .int 0, .int 0, .int 0, .int (-1), .int (-1), .int 0, .ref mY, .int 0, .ref mE, .int 0, .int 0, .ref mW, .int 0, .ref mO, .int 0, .ref y1, .ref y2, .ref y3, .ref y4, .ref mZ])), (mS, .inl (cI, 21, .inl (fun _ => 0)))]) (hS : va_S A s.heap H locs) (hl : lv_has ls 7 [(0, .ref b), (1, .ref oX), (2, .ref oM), (3, .ref oJ), (4, .int 0)]) : W p l e room_1 s m #[Value.ref b] below meth c H locs 90 172225 (lw_Z below #[Value.ref b] s) (F0 m 423 ls []) := by
  obtain ⟨hx, hb, hr, hml, hown, hts0, hX, hbl, hlocks, hgv⟩ := id C0
  have hown : s.vm.findClass RL = some m.cls := hown
  have hts := hts0
  have hA : ∀ q : Nat, s.heap.size ≤ q → A q := fun q h => by rw [hAd]; exact h
  have hbA : ¬ A b := by rw [hAd]; exact Nat.not_le.mpr hbl
  refine lv_aload_n hx hb dL_law_423 rfl (lv_at hl 1 rfl) ?_
  refine lv_aload_n hx hb dL_law_424 rfl (lv_at hl 0 rfl) ?_
  refine lv_iload hx hb dL_law_425 (lv_at hl 4 rfl) ?_
  refine lv_iconst (v := 1) hx hb dL_law_427 (by decide) ?_
  refine lv_iadd hx hb dL_law_428 ?_
  refine k_i (y := 1) (by decide) ?_
  refine va_sld hx hb hX hbl hbA hS (by unfold vp_in; decide) dL_law_429 ?_
  refine lv_aload_n hx hb dL_law_430 rfl (lv_at hl 3 rfl) ?_
  have hPc := hP.sub (ws' := [(oX, .inr (11, [.ref nT, .ref nL, .ref nM, .ref oC, .ref oP, .ref oH, .ref oK, .ref oG, .ref oR, .ref oQ, .ref oW, .int (-1)])), (nL, .inr (5, [.ref aL, .int 0]))]) [0, 1] rfl
  have hDc := hD.sub (ws' := [(oX, .inr (11, [.ref nT, .ref nL, .ref nM, .ref oC, .ref oP, .ref oH, .ref oK, .ref oG, .ref oR, .ref oQ, .ref oW, .int (-1)])), (nL, .inr (5, [.ref aL, .int 0]))]) [0, 1] (by decide) rfl
  have hFc := va_free (wc := [(oX, .inr (11, [.ref nT, .ref nL, .ref nM, .ref oC, .ref oP, .ref oH, .ref oK, .ref oG, .ref oR, .ref oQ, .ref oW, .int (-1)])), (nL, .inr (5, [.ref aL, .int 0]))]) hD hS hA [0, 1] rfl
  refine va_calli (vx_runSW (As := [.ref oX, .int (xs (1 : Int32).toNatClampNeg), .ref oJ]) (rest := []) ⟨hx, hb, hml, hown, hts⟩ (m_L_at l hst dC dI cI cS H.size oX nT nL nM oC oP oH oK oG oR oQ oW aL oJ (xs (1 : Int32).toNatClampNeg) sa) (vx_cwSW 3 hts gL_law_L_at rfl rfl rfl (by decide +kernel) ⟨Nat.le_of_ble_eq_true rfl, Nat.le_of_ble_eq_true rfl⟩) ⟨fun a U g mk q => by obtain ⟨q0, q1, qP, qK, qD, qc, qs, qU, qN⟩ := q; exact ⟨q0, q1, qP, va_K.moved (u := U) (U := U.calling g mk a) (Vm.Alike.refl U.vm) qK, qD, p_Dw.same rfl qc, vk_R.same rfl qs, vx_Zq.moved (Vm.Alike.refl U.vm) qU, vx_Zq.moved (Vm.Alike.refl U.vm) qN⟩, fun U hU9 hW => ⟨rfl, by rw [hU9], by rw [hU9]; exact hPc, va_K.moved hW.alike hK, hDc.weaken (fun _ _ _ _ => trivial), p_Dw.warm hW hcast, vk_R.warm hW hstr, by rw [hU9]; exact vx_Zq.moved hW.alike ((hU.kept hS.2.1).narrow hFc), by rw [hU9]; exact vx_Zq.moved hW.alike ((hN.kept hS.2.1).narrow hFc)⟩⟩ rfl rfl hl.1 rfl (lv_room (Nat.le_of_ble_eq_true rfl)) dL_law_431 ⟨Nat.le_of_ble_eq_true rfl, Nat.le_of_ble_eq_true rfl⟩) hS (fun q _ h => hFc q h) hFc (fun r_9 u t H1 locs ht hvm hw hB hz1 hk1 hS => ?_)
  obtain ⟨hP, hD⟩ := va_join (wr := [(oM, .inr (12, [.ref mT, .int 0, .ref mS, .ref mX, .int 0, .int 0, .ref mL, .ref mB, .ref mD, .ref m1, .ref m2, .int 0, .ref mR, .int 0, .ref x1, .ref x2, .ref x3, .int 0, .ref mH, .int 0, .int 0, .int 0, .int 0, .int (-1), .int (-1), .int 0, .ref mY, .int 0, .ref mE, .int 0, .int 0, .ref mW, .int 0, .ref mO, .int 0, .ref y1, .ref y2, .ref y3, .ref y4, .ref mZ])), (mS, .inl (cI, 21, .inl (fun _ => 0)))]) (w1 := []) hP hD [0, 1] [2, 3] rfl rfl (by decide) (by decide) hk1 hFc p_P0 p_D0
  generalize H1 = H at hP hS ⊢
  have hP : va_P (dC, dI) vwCl [(oM, .inr (12, [.ref mT, .int 0, .ref mS, .ref mX, .int 0, .int 0, .ref mL, .ref mB, .ref mD, .ref m1, .ref m2, .int 0, .ref mR, .int 0, .ref x1, .ref x2, .ref x3, .int 0, .ref mH, .int 0, .int 0, .int 0, .int 0, .int (-1), .int (-1), .int 0, .ref mY, .int 0, .ref mE, .int 0, .int 0, .ref mW, .int 0, .ref mO, .int 0, .ref y1, .ref y2, .ref y3, .ref y4, .ref mZ])), (mS, .inl (cI, 21, .inl (fun _ => 0)))] H := hP
  have hD : va_D A [(oM, .inr (12, [.ref mT, .int 0, .ref mS, .ref mX, .int 0, .int 0, .ref mL, .ref mB, .ref mD, .ref m1, .ref m2, .int 0, .ref mR, .int 0, .ref x1, .ref x2, .ref x3, .int 0, .ref mH, .int 0, .int 0, .int 0, .int 0, .int (-1), .int (-1), .int 0, .ref mY, .int 0, .ref mE, .int 0, .int 0, .ref mW, .int 0, .ref mO, .int 0, .ref y1, .ref y2, .ref y3, .ref y4, .ref mZ])), (mS, .inl (cI, 21, .inl (fun _ => 0)))] := hD
  subst hw
  refine W.widen (k := 91) (n := 172231) (by omega) (by omega) ?_
  refine lv_istore (lv' := [(5, .int 1), (0, .ref b), (1, .ref oX), (2, .ref oM), (3, .ref oJ), (4, .int 0)]) hx hb dL_law_434 hl (by decide) rfl (fun ls hl => ?_)
  refine lv_aload_n hx hb dL_law_436 rfl (lv_at hl 3 rfl) ?_
  refine lv_aload_n hx hb dL_law_437 rfl (lv_at hl 1 rfl) ?_
  refine lv_iload hx hb dL_law_438 (lv_at hl 5 rfl) ?_
  refine lv_iconst (v := 1) hx hb dL_law_440 (by decide) ?_
  refine lv_iadd hx hb dL_law_441 ?_
  refine k_i (y := 1) (by decide) ?_
  refine va_sld hx hb hX hbl hbA hS (by unfold vp_in; decide) dL_law_442 ?_
  have hPc := hP.sub (ws' := [(oM, .inr (12, [.ref mT, .int 0, .ref mS, .ref mX, .int 0, .int 0, .ref mL, .ref mB, .ref mD, .ref m1, .ref m2, .int 0, .ref mR, .int 0, .ref x1, .ref x2, .ref x3, .int 0, .ref mH, .int 0, .int 0, .int 0, .int 0, .int (-1), .int (-1), .int 0, .ref mY, .int 0, .ref mE, .int 0, .int 0, .ref mW, .int 0, .ref mO, .int 0, .ref y1, .ref y2, .ref y3, .ref y4, .ref mZ])), (mS, .inl (cI, 21, .inl (fun _ => 0)))]) [0, 1] rfl
  have hDc := hD.sub (ws' := [(oM, .inr (12, [.ref mT, .int 0, .ref mS, .ref mX, .int 0, .int 0, .ref mL, .ref mB, .ref mD, .ref m1, .ref m2, .int 0, .ref mR, .int 0, .ref x1, .ref x2, .ref x3, .int 0, .ref mH, .int 0, .int 0, .int 0, .int 0, .int (-1), .int (-1), .int 0, .ref mY, .int 0, .ref mE, .int 0, .int 0, .ref mW, .int 0, .ref mO, .int 0, .ref y1, .ref y2, .ref y3, .ref y4, .ref mZ])), (mS, .inl (cI, 21, .inl (fun _ => 0)))]) [0, 1] (by decide) rfl
  have hFc := va_free (wc := [(oM, .inr (12, [.ref mT, .int 0, .ref mS, .ref mX, .int 0, .int 0, .ref mL, .ref mB, .ref mD, .ref m1, .ref m2, .int 0, .ref mR, .int 0, .ref x1, .ref x2, .ref x3, .int 0, .ref mH, .int 0, .int 0, .int 0, .int 0, .int (-1), .int (-1), .int 0, .ref mY, .int 0, .ref mE, .int 0, .int 0, .ref mW, .int 0, .ref mO, .int 0, .ref y1, .ref y2, .ref y3, .ref y4, .ref mZ])), (mS, .inl (cI, 21, .inl (fun _ => 0)))]) hD hS hA [0, 1] rfl
  refine va_calli (va_runV (As := [.int (xs (1 : Int32).toNatClampNeg)]) (rest := []) ⟨hx, hb, hml, hown, hts⟩ (y_at l dC dI cI cS H.size oM mT mS mX mL mB mD m1 m2 mR x1 x2 x3 mH mY mE mW mO y1 y2 y3 y4 mZ (xs (1 : Int32).toNatClampNeg) ) (cwV 1 hts gL_law_X12_at rfl rfl rfl (by decide +kernel) ⟨Nat.le_of_ble_eq_true rfl, Nat.le_of_ble_eq_true rfl⟩) ⟨fun a U g mk q => by obtain ⟨q0, q1, qP, qK, qD⟩ := q; exact ⟨q0, q1, qP, va_K.moved (u := U) (U := U.calling g mk a) (Vm.Alike.refl U.vm) qK, qD⟩, va_recv hK hPc (ci := 12) (q0 := 0) rfl rfl, fun U hU hW => ⟨rfl, by rw [hU], by rw [hU]; exact hPc, va_K.moved hW.alike hK, hDc.weaken (fun _ _ _ _ => trivial)⟩⟩ rfl rfl hl.1 rfl (lv_room (Nat.le_of_ble_eq_true rfl)) dL_law_443 ⟨Nat.le_of_ble_eq_true rfl, Nat.le_of_ble_eq_true rfl⟩) hS (fun q _ h => hFc q h) hFc (fun r_1 u t H1 locs ht hvm hw hB hz1 hk1 hS => ?_)
  obtain ⟨hP1, hD1⟩ := hB
  rw [ht] at hP1
  obtain ⟨hP, hD⟩ := va_join (wr := []) (w1 := [(oM, .inr (12, [.ref mT, .int 0, .ref mS, .ref mX, .int 0, .int 0, .ref mL, .ref mB, .ref mD, .ref m1, .ref m2, .int 0, .ref mR, .int 0, .ref x1, .ref x2, .ref x3, .int 0, .ref mH, .int 0, .int 0, .int 0, .int 0, .int (-1), .int (-1), .int 1, .ref mY, .int 0, .ref mE, .int 0, .int 0, .ref mW, .int 0, .ref mO, .int 0, .ref y1, .ref y2, .ref y3, .ref y4, .ref mZ]))]) hP hD [0, 1] [] rfl rfl (by decide) (by decide) hk1 hFc hP1 hD1
  generalize H1 = H at hP hS ⊢
  have hP : va_P (dC, dI) vwCl [(oM, .inr (12, [.ref mT, .int 0, .ref mS, .ref mX, .int 0, .int 0, .ref mL, .ref mB, .ref mD, .ref m1, .ref m2, .int 0, .ref mR, .int 0, .ref x1, .ref x2, .ref x3, .int 0, .ref mH, .int 0, .int 0, .int 0, .int 0, .int (-1), .int (-1), .int 1, .ref mY, .int 0, .ref mE, .int 0, .int 0, .ref mW, .int 0, .ref mO, .int 0, .ref y1, .ref y2, .ref y3, .ref y4, .ref mZ]))] H := hP
  have hD : va_D A [(oM, .inr (12, [.ref mT, .int 0, .ref mS, .ref mX, .int 0, .int 0, .ref mL, .ref mB, .ref mD, .ref m1, .ref m2, .int 0, .ref mR, .int 0, .ref x1, .ref x2, .ref x3, .int 0, .ref mH, .int 0, .int 0, .int 0, .int 0, .int (-1), .int (-1), .int 1, .ref mY, .int 0, .ref mE, .int 0, .int 0, .ref mW, .int 0, .ref mO, .int 0, .ref y1, .ref y2, .ref y3, .ref y4, .ref mZ]))] := hD
  subst hw
  refine lv_istore (lv' := [(6, .int 0), (5, .int 1), (0, .ref b), (1, .ref oX), (2, .ref oM), (3, .ref oJ), (4, .int 0)]) hx hb dL_law_446 hl (by decide) rfl (fun ls hl => ?_)
  refine lv_aload_n hx hb dL_law_448 rfl (lv_at hl 4 rfl) ?_
  have hPc := hP.sub (ws' := [(oM, .inr (12, [.ref mT, .int 0, .ref mS, .ref mX, .int 0, .int 0, .ref mL, .ref mB, .ref mD, .ref m1, .ref m2, .int 0, .ref mR, .int 0, .ref x1, .ref x2, .ref x3, .int 0, .ref mH, .int 0, .int 0, .int 0, .int 0, .int (-1), .int (-1), .int 1, .ref mY, .int 0, .ref mE, .int 0, .int 0, .ref mW, .int 0, .ref mO, .int 0, .ref y1, .ref y2, .ref y3, .ref y4, .ref mZ]))]) [0] rfl
  have hDc := hD.sub (ws' := [(oM, .inr (12, [.ref mT, .int 0, .ref mS, .ref mX, .int 0, .int 0, .ref mL, .ref mB, .ref mD, .ref m1, .ref m2, .int 0, .ref mR, .int 0, .ref x1, .ref x2, .ref x3, .int 0, .ref mH, .int 0, .int 0, .int 0, .int 0, .int (-1), .int (-1), .int 1, .ref mY, .int 0, .ref mE, .int 0, .int 0, .ref mW, .int 0, .ref mO, .int 0, .ref y1, .ref y2, .ref y3, .ref y4, .ref mZ]))]) [0] (by decide) rfl
  have hFc := va_free (wc := [(oM, .inr (12, [.ref mT, .int 0, .ref mS, .ref mX, .int 0, .int 0, .ref mL, .ref mB, .ref mD, .ref m1, .ref m2, .int 0, .ref mR, .int 0, .ref x1, .ref x2, .ref x3, .int 0, .ref mH, .int 0, .int 0, .int 0, .int 0, .int (-1), .int (-1), .int 1, .ref mY, .int 0, .ref mE, .int 0, .int 0, .ref mW, .int 0, .ref mO, .int 0, .ref y1, .ref y2, .ref y3, .ref y4, .ref mZ]))]) hD hS hA [0] rfl
  refine va_calli (va_runV (As := []) (rest := []) ⟨hx, hb, hml, hown, hts⟩ (y_thrown l dC dI cI cS H.size oM mT mS mX mL mB mD m1 m2 mR x1 x2 x3 mH mY mE mW mO y1 y2 y3 y4 mZ ) (cwV 0 hts gL_law_X12_thrown rfl rfl rfl (by decide +kernel) ⟨Nat.le_of_ble_eq_true rfl, Nat.le_of_ble_eq_true rfl⟩) ⟨fun a U g mk q => by obtain ⟨q0, q1, qP, qK, qD⟩ := q; exact ⟨q0, q1, qP, va_K.moved (u := U) (U := U.calling g mk a) (Vm.Alike.refl U.vm) qK, qD⟩, va_recv hK hPc (ci := 12) (q0 := 0) rfl rfl, fun U hU hW => ⟨rfl, by rw [hU], by rw [hU]; exact hPc, va_K.moved hW.alike hK, hDc.weaken (fun _ _ _ _ => trivial)⟩⟩ rfl rfl hl.1 rfl (lv_room (Nat.le_of_ble_eq_true rfl)) dL_law_449 ⟨Nat.le_of_ble_eq_true rfl, Nat.le_of_ble_eq_true rfl⟩) hS (fun q _ h => hFc q h) hFc (fun r_2 u t H1 locs ht hvm hw hB hz1 hk1 hS => ?_)
  obtain ⟨hP, hD⟩ := va_join (wr := []) (w1 := []) hP hD [0] [] rfl rfl (by decide) (by decide) hk1 hFc p_P0 p_D0
  generalize H1 = H at hP hS ⊢
  have hP : va_P (dC, dI) vwCl [] H := hP
  have hD : va_D A [] := hD
  subst hw
  refine lv_iload hx hb dL_law_452 (lv_at hl 1 rfl) ?_
  refine lv_icmp_eq (tgt := 459) hx hb dL_law_454 (by decide) (fun c_3 => ?_) (fun c_3 => absurd (by decide) c_3)
  refine lv_iload hx hb dL_law_459 (lv_at hl 1 rfl) ?_
  refine lv_if_ne (tgt := 476) hx hb dL_law_461 (by decide) (fun c_4 => ?_) (fun c_4 => absurd c_4 (by decide))
  refine lv_goto (tgt := 1050) hx hb dL_law_476 (by decide) ?_
  exact law_over7 C0 hAd hS (lv_sub hl [2, 3, 4, 5, 6] rfl)

set_option maxHeartbeats 4000000 in
set_option maxRecDepth 100000 in
theorem law_switch {p : Program} {l : Launch} {e : Env} {s : State} {m : MethodId} {below : List Frame} {meth : Method} {c : Code} {dC : Nat → ClassId} {dI : Nat → Nat → Nat} {cI cS : ClassId} {A : Nat → Prop} {b : Nat} {xs : Nat → Int32} (C0 : lw_At p s m meth c b 6 xs) (hAd : A = fun q : Nat => s.heap.size ≤ q) (hst : l.stackTraces = false) {sa : Nat} (hcast : p_Dw s) (hstr : vk_R RX11 162 "no such letter" sa s) (hU : vx_Zq Bundle.tN "UNASSIGNED_STACK" Bundle.steD A s s.heap) (hN : vx_Zq Bundle.tN "SUPPRESSED_SENTINEL" Bundle.listD A s s.heap) (hK : va_K (dC, dI) vwCl [(cI, .int), (cS, .short)] s) {oX nT nL nM oC oP oH oK oG oR oQ oW aT aL aM o4 o5 a41 a42 a43 a51 a52 a53 nB aB h1 h2 k1 k2 g1 g2 n1 n2 n3 f1 f2 f3 f4 f5 f6 w0 w1 w2 w3 w4 w5 w6 w7 w8 w9 w10 oM mT mS mX mL mB mD m1 m2 mR x1 x2 x3 mH mY mE mW mO y1 y2 y3 y4 mZ oJ : Nat} {H : Heap} {locs : List Loc} {ls : Array Slot} (hP : va_P (dC, dI) vwCl [(oX, .inr (11, [.ref nT, .ref nL, .ref nM, .ref oC, .ref oP, .ref oH, .ref oK, .ref oG, .ref oR, .ref oQ, .ref oW, .int (-1)])), (nT, .inr (5, [.ref aT, .int 0])), (aT, .inl (cI, 900, .inl (fun _ => 0))), (nL, .inr (5, [.ref aL, .int 0])), (aL, .inl (cI, 300, .inl (fun _ => 0))), (nM, .inr (5, [.ref aM, .int 0])), (aM, .inl (cI, 300, .inl (fun _ => 0))), (oC, .inr (2, [.ref o4, .ref o5])), (o4, .inr (10, [.ref a41, .ref a42, .ref a43, .int 0])), (a41, .inl (cI, 256, .inl (fun _ => (-1)))), (a42, .inl (cI, 512, .inl (fun _ => 0))), (a43, .inl (cI, 512, .inl (fun _ => (-1)))), (o5, .inr (10, [.ref a51, .ref a52, .ref a53, .int 0])), (a51, .inl (cI, 256, .inl (fun _ => (-1)))), (a52, .inl (cI, 512, .inl (fun _ => 0))), (a53, .inl (cI, 512, .inl (fun _ => (-1)))), (oP, .inr (7, [.ref oC, .ref nB, .int (-1)])), (nB, .inr (5, [.ref aB, .int 0])), (aB, .inl (cI, 2400, .inl (fun _ => 0))), (oH, .inr (4, [.ref oP, .ref h1, .ref h2, .int 0])), (h1, .inl (cI, 6, .inl (fun _ => 0))), (h2, .inl (cI, 6, .inl (fun _ => 0))), (oK, .inr (3, [.ref k1, .ref k2, .int 0])), (k1, .inl (cI, 1024, .inl (fun _ => 0))), (k2, .inl (cI, 1024, .inl (fun _ => (-1)))), (oG, .inr (0, [.ref g1, .ref g2, .int 0, .int 0])), (g1, .inl (cI, 6000, .inl (fun _ => 0))), (g2, .inl (cI, 20, .inl (fun _ => 0))), (oR, .inr (9, [.ref oH, .ref oK, .ref n1, .ref n2, .ref n3, .ref f1, .ref f2, .ref f3, .ref f4, .ref f5, .ref f6, .int 0])), (f1, .inl (cI, 258, .inl (fun _ => (-1)))), (oW, .inr (1, [.ref oC, .ref oK, .ref w0, .ref w1, .ref w2, .ref w3, .ref w4, .ref w5, .ref w6, .ref w7, .ref w8, .ref w9, .ref w10, .int 0, .int 0, .int 0, .int (-1), .int (-1), .int (-1), .int (-1)])), (oM, .inr (12, [.ref mT, .int 0, .ref mS, .ref mX, .int 0, .int 0, .ref mL, .ref mB, .ref mD, .ref m1, .ref m2, .int 0, .ref mR, .int 0, .ref x1, .ref x2, .ref x3, .int 0, .ref mH, .int 0, .int 0, .int 0, .int 0, .int (-1), .int (-1), .int 0, .ref mY, .int 0, .ref mE, .int 0, .int 0, .ref mW, .int 0, .ref mO, .int 0, .ref y1, .ref y2, .ref y3, .ref y4, .ref mZ])), (mT, .inl (cI, 900, .inl (fun _ => 0))), (mS, .inl (cI, 21, .inl (fun _ => 0))), (mL, .inl (cI, 512, .inl (fun _ => (-1)))), (mB, .inl (cS, 131072, .inl (fun _ => (-1)))), (mD, .inl (cI, 2, .inl (fun _ => 0))), (m1, .inl (cI, 6, .inl (fun _ => 0))), (m2, .inl (cI, 6, .inl (fun _ => 0))), (x1, .inl (cI, 300, .inl (fun _ => 0))), (x2, .inl (cI, 300, .inl (fun _ => 0))), (x3, .inl (cI, 300, .inl (fun _ => 0)))] H) (hD : va_D A [(oX, .inr (11, [.ref nT, .ref nL, .ref nM, .ref oC, .ref oP, .ref oH, .ref oK, .ref oG, .ref oR, .ref oQ, .ref oW, .int (-1)])), (nT, .inr (5, [.ref aT, .int 0])), (aT, .inl (cI, 900, .inl (fun _ => 0))), (nL, .inr (5, [.ref aL, .int 0])), (aL, .inl (cI, 300, .inl (fun _ => 0))), (nM, .inr (5, [.ref aM, .int 0])), (aM, .inl (cI, 300, .inl (fun _ => 0))), (oC, .inr (2, [.ref o4, .ref o5])), (o4, .inr (10, [.ref a41, .ref a42, .ref a43, .int 0])), (a41, .inl (cI, 256, .inl (fun _ => (-1)))), (a42, .inl (cI, 512, .inl (fun _ => 0))), (a43, .inl (cI, 512, .inl (fun _ => (-1)))), (o5, .inr (10, [.ref a51, .ref a52, .ref a53, .int 0])), (a51, .inl (cI, 256, .inl (fun _ => (-1)))), (a52, .inl (cI, 512, .inl (fun _ => 0))), (a53, .inl (cI, 512, .inl (fun _ => (-1)))), (oP, .inr (7, [.ref oC, .ref nB, .int (-1)])), (nB, .inr (5, [.ref aB, .int 0])), (aB, .inl (cI, 2400, .inl (fun _ => 0))), (oH, .inr (4, [.ref oP, .ref h1, .ref h2, .int 0])), (h1, .inl (cI, 6, .inl (fun _ => 0))), (h2, .inl (cI, 6, .inl (fun _ => 0))), (oK, .inr (3, [.ref k1, .ref k2, .int 0])), (k1, .inl (cI, 1024, .inl (fun _ => 0))), (k2, .inl (cI, 1024, .inl (fun _ => (-1)))), (oG, .inr (0, [.ref g1, .ref g2, .int 0, .int 0])), (g1, .inl (cI, 6000, .inl (fun _ => 0))), (g2, .inl (cI, 20, .inl (fun _ => 0))), (oR, .inr (9, [.ref oH, .ref oK, .ref n1, .ref n2, .ref n3, .ref f1, .ref f2, .ref f3, .ref f4, .ref f5, .ref f6, .int 0])), (f1, .inl (cI, 258, .inl (fun _ => (-1)))), (oW, .inr (1, [.ref oC, .ref oK, .ref w0, .ref w1, .ref w2, .ref w3, .ref w4, .ref w5, .ref w6, .ref w7, .ref w8, .ref w9, .ref w10, .int 0, .int 0, .int 0, .int (-1), .int (-1), .int (-1), .int (-1)])), (oM, .inr (12, [.ref mT, .int 0, .ref mS, .ref mX, .int 0, .int 0, .ref mL, .ref mB, .ref mD, .ref m1, .ref m2, .int 0, .ref mR, .int 0, .ref x1, .ref x2, .ref x3, .int 0, .ref mH, .int 0, .int 0, .int 0, .int 0, .int (-1), .int (-1), .int 0, .ref mY, .int 0, .ref mE, .int 0, .int 0, .ref mW, .int 0, .ref mO, .int 0, .ref y1, .ref y2, .ref y3, .ref y4, .ref mZ])), (mT, .inl (cI, 900, .inl (fun _ => 0))), (mS, .inl (cI, 21, .inl (fun _ => 0))), (mL, .inl (cI, 512, .inl (fun _ => (-1)))), (mB, .inl (cS, 131072, .inl (fun _ => (-1)))), (mD, .inl (cI, 2, .inl (fun _ => 0))), (m1, .inl (cI, 6, .inl (fun _ => 0))), (m2, .inl (cI, 6, .inl (fun _ => 0))), (x1, .inl (cI, 300, .inl (fun _ => 0))), (x2, .inl (cI, 300, .inl (fun _ => 0))), (x3, .inl (cI, 300, .inl (fun _ => 0)))]) (hS : va_S A s.heap H locs) (hl : lv_has ls 7 [(0, .ref b), (1, .ref oX), (2, .ref oM), (3, .ref oJ), (4, .int 0)]) (x : Int32) : W p l e room_1 s m #[Value.ref b] below meth c H locs 90 172225 (lw_Z below #[Value.ref b] s) (F0 m 40 ls [.int x]) := by
  obtain ⟨hx, hb, hr, hml, hown, hts0, hX, hbl, hlocks, hgv⟩ := id C0
  by_cases c_0 : x = 0
  · refine lv_tableIn (tgt := 164) hx hb dL_law_40 (by rw [c_0]; decide) (by rw [c_0]; decide) (by rw [c_0]; rfl) (by decide) ?_
    exact law_feed C0 hAd hK (hP.sub [0, 1, 2, 31, 32] rfl) (hD.sub [0, 1, 2, 31, 32] (by decide) rfl) hS hl
  · skip
    by_cases c_1 : x = 1
    · refine lv_tableIn (tgt := 237) hx hb dL_law_40 (by rw [c_1]; decide) (by rw [c_1]; decide) (by rw [c_1]; rfl) (by decide) ?_
      exact law_end C0 hAd hK (hP.sub [0, 1, 31] rfl) (hD.sub [0, 1, 31] (by decide) rfl) hS hl
    · skip
      by_cases c_2 : x = 2
      · refine lv_tableIn (tgt := 262) hx hb dL_law_40 (by rw [c_2]; decide) (by rw [c_2]; decide) (by rw [c_2]; rfl) (by decide) ?_
        exact law_text C0 hAd hK (hP.sub [0, 1, 2, 3, 4, 5, 6, 25, 26, 27, 30, 31, 33] rfl) (hD.sub [0, 1, 2, 3, 4, 5, 6, 25, 26, 27, 30, 31, 33] (by decide) rfl) hS hl
      · skip
        by_cases c_3 : x = 3
        · refine lv_tableIn (tgt := 275) hx hb dL_law_40 (by rw [c_3]; decide) (by rw [c_3]; decide) (by rw [c_3]; rfl) (by decide) ?_
          exact law_read C0 hAd hK (hP.sub [0, 1, 2, 3, 4, 5, 6, 25, 26, 27, 30, 16, 31, 33] rfl) (hD.sub [0, 1, 2, 3, 4, 5, 6, 25, 26, 27, 30, 16, 31, 33] (by decide) rfl) hS hl
        · skip
          by_cases c_4 : x = 4
          · refine lv_tableIn (tgt := 300) hx hb dL_law_40 (by rw [c_4]; decide) (by rw [c_4]; decide) (by rw [c_4]; rfl) (by decide) ?_
            exact law_span C0 hAd hK (hP.sub [0, 7, 8, 9, 10, 11, 12, 13, 14, 15, 30, 31, 34, 35, 36] rfl) (hD.sub [0, 7, 8, 9, 10, 11, 12, 13, 14, 15, 30, 31, 34, 35, 36] (by decide) rfl) hS hl
          · skip
            by_cases c_5 : x = 5
            · refine lv_tableIn (tgt := 373) hx hb dL_law_40 (by rw [c_5]; decide) (by rw [c_5]; decide) (by rw [c_5]; rfl) (by decide) ?_
              exact law_blank C0 hAd hK (hP.sub [0, 7, 8, 9, 11, 12, 13, 15, 30, 31, 34, 35, 36] rfl) (hD.sub [0, 7, 8, 9, 11, 12, 13, 15, 30, 31, 34, 35, 36] (by decide) rfl) hS hl
            · skip
              by_cases c_6 : x = 6
              · refine lv_tableIn (tgt := 398) hx hb dL_law_40 (by rw [c_6]; decide) (by rw [c_6]; decide) (by rw [c_6]; rfl) (by decide) ?_
                exact law_count C0 hAd hK (hP.sub [0, 3, 1, 19, 25, 22, 7, 8, 12, 31, 33, 36] rfl) (hD.sub [0, 3, 1, 19, 25, 22, 7, 8, 12, 31, 33, 36] (by decide) rfl) hS hl
              · skip
                by_cases c_7 : x = 7
                · refine lv_tableIn (tgt := 423) hx hb dL_law_40 (by rw [c_7]; decide) (by rw [c_7]; decide) (by rw [c_7]; rfl) (by decide) ?_
                  exact law_at C0 hAd hst hcast hstr hU hN hK (hP.sub [0, 3, 31, 33] rfl) (hD.sub [0, 3, 31, 33] (by decide) rfl) hS hl
                · skip
                  by_cases c_8 : x = 8
                  · refine lv_tableIn (tgt := 479) hx hb dL_law_40 (by rw [c_8]; decide) (by rw [c_8]; decide) (by rw [c_8]; rfl) (by decide) ?_
                    exact law_size C0 hAd hK (hP.sub [0, 3, 16, 17, 31, 33] rfl) (hD.sub [0, 3, 16, 17, 31, 33] (by decide) rfl) hS hl
                  · skip
                    by_cases c_9 : x = 9
                    · refine lv_tableIn (tgt := 504) hx hb dL_law_40 (by rw [c_9]; decide) (by rw [c_9]; decide) (by rw [c_9]; rfl) (by decide) ?_
                      exact law_byteOf C0 hAd hK (hP.sub [0, 3, 16, 17, 31, 33] rfl) (hD.sub [0, 3, 16, 17, 31, 33] (by decide) rfl) hS hl
                    · skip
                      by_cases c_10 : x = 10
                      · refine lv_tableIn (tgt := 541) hx hb dL_law_40 (by rw [c_10]; decide) (by rw [c_10]; decide) (by rw [c_10]; rfl) (by decide) ?_
                        exact law_where C0 hAd hK (hP.sub [0, 31] rfl) (hD.sub [0, 31] (by decide) rfl) hS hl
                      · skip
                        by_cases c_11 : x = 11
                        · refine lv_tableIn (tgt := 554) hx hb dL_law_40 (by rw [c_11]; decide) (by rw [c_11]; decide) (by rw [c_11]; rfl) (by decide) ?_
                          exact law_harm C0 hAd hK (hP.sub [0, 3, 4, 5, 6, 16, 17, 25, 26, 27, 30, 31, 33] rfl) (hD.sub [0, 3, 4, 5, 6, 16, 17, 25, 26, 27, 30, 31, 33] (by decide) rfl) hS hl
                        · skip
                          by_cases c_12 : x = 12
                          · refine lv_tableIn (tgt := 591) hx hb dL_law_40 (by rw [c_12]; decide) (by rw [c_12]; decide) (by rw [c_12]; rfl) (by decide) ?_
                            exact law_rough C0 hAd hK (hP.sub [0, 3, 4, 5, 6, 16, 17, 25, 26, 27, 30, 31, 33] rfl) (hD.sub [0, 3, 4, 5, 6, 16, 17, 25, 26, 27, 30, 31, 33] (by decide) rfl) hS hl
                          · skip
                            by_cases c_13 : x = 13
                            · refine lv_tableIn (tgt := 628) hx hb dL_law_40 (by rw [c_13]; decide) (by rw [c_13]; decide) (by rw [c_13]; rfl) (by decide) ?_
                              exact law_undo C0 hAd hK (hP.sub [0, 3, 4, 5, 6, 16, 17, 25, 26, 27, 30, 31, 33] rfl) (hD.sub [0, 3, 4, 5, 6, 16, 17, 25, 26, 27, 30, 31, 33] (by decide) rfl) hS hl
                            · skip
                              by_cases c_14 : x = 14
                              · refine lv_tableIn (tgt := 665) hx hb dL_law_40 (by rw [c_14]; decide) (by rw [c_14]; decide) (by rw [c_14]; rfl) (by decide) ?_
                                exact law_safe C0 hAd hK (hP.sub [0, 7, 8, 9, 12, 13, 31, 34] rfl) (hD.sub [0, 7, 8, 9, 12, 13, 31, 34] (by decide) rfl) hS hl
                              · skip
                                by_cases c_15 : x = 15
                                · refine lv_tableIn (tgt := 702) hx hb dL_law_40 (by rw [c_15]; decide) (by rw [c_15]; decide) (by rw [c_15]; rfl) (by decide) ?_
                                  exact law_back C0 hAd hK (hP.sub [0, 25, 31] rfl) (hD.sub [0, 25, 31] (by decide) rfl) hS hl
                                · skip
                                  by_cases c_16 : x = 16
                                  · refine lv_tableIn (tgt := 715) hx hb dL_law_40 (by rw [c_16]; decide) (by rw [c_16]; decide) (by rw [c_16]; rfl) (by decide) ?_
                                    exact law_list C0 hAd hK (hP.sub [0, 19, 20, 21, 30, 31, 37, 38] rfl) (hD.sub [0, 19, 20, 21, 30, 31, 37, 38] (by decide) rfl) hS hl
                                  · skip
                                    by_cases c_17 : x = 17
                                    · refine lv_tableIn (tgt := 752) hx hb dL_law_40 (by rw [c_17]; decide) (by rw [c_17]; decide) (by rw [c_17]; rfl) (by decide) ?_
                                      exact law_unlist C0 hAd hK (hP.sub [0, 19, 30, 31] rfl) (hD.sub [0, 19, 30, 31] (by decide) rfl) hS hl
                                    · skip
                                      by_cases c_18 : x = 18
                                      · refine lv_tableIn (tgt := 765) hx hb dL_law_40 (by rw [c_18]; decide) (by rw [c_18]; decide) (by rw [c_18]; rfl) (by decide) ?_
                                        exact law_rows C0 hAd hK (hP.sub [0, 28, 29, 19, 31] rfl) (hD.sub [0, 28, 29, 19, 31] (by decide) rfl) hS hl
                                      · skip
                                        by_cases c_19 : x = 19
                                        · refine lv_tableIn (tgt := 790) hx hb dL_law_40 (by rw [c_19]; decide) (by rw [c_19]; decide) (by rw [c_19]; rfl) (by decide) ?_
                                          exact law_row C0 hAd hK (hP.sub [0, 28, 31] rfl) (hD.sub [0, 28, 31] (by decide) rfl) hS hl
                                        · skip
                                          by_cases c_20 : x = 20
                                          · refine lv_tableIn (tgt := 827) hx hb dL_law_40 (by rw [c_20]; decide) (by rw [c_20]; decide) (by rw [c_20]; rfl) (by decide) ?_
                                            exact law_cost C0 hAd hK (hP.sub [0, 22, 23, 24, 30, 31, 39, 40, 41] rfl) (hD.sub [0, 22, 23, 24, 30, 31, 39, 40, 41] (by decide) rfl) hS hl
                                          · skip
                                            by_cases c_21 : x = 21
                                            · refine lv_tableIn (tgt := 876) hx hb dL_law_40 (by rw [c_21]; decide) (by rw [c_21]; decide) (by rw [c_21]; rfl) (by decide) ?_
                                              exact law_worth C0 hAd hK (hP.sub [0, 22, 3, 31, 33] rfl) (hD.sub [0, 22, 3, 31, 33] (by decide) rfl) hS hl
                                            · skip
                                              by_cases c_22 : x = 22
                                              · refine lv_tableIn (tgt := 889) hx hb dL_law_40 (by rw [c_22]; decide) (by rw [c_22]; decide) (by rw [c_22]; rfl) (by decide) ?_
                                                exact law_mend C0 hAd hK (hP.sub [0, 28, 29, 19, 31] rfl) (hD.sub [0, 28, 29, 19, 31] (by decide) rfl) hS hl
                                              · skip
                                                by_cases c_23 : x = 23
                                                · refine lv_tableIn (tgt := 926) hx hb dL_law_40 (by rw [c_23]; decide) (by rw [c_23]; decide) (by rw [c_23]; rfl) (by decide) ?_
                                                  exact law_parts C0 hAd hK (hP.sub [0, 3, 31, 33] rfl) (hD.sub [0, 3, 31, 33] (by decide) rfl) hS hl
                                                · skip
                                                  by_cases c_24 : x = 24
                                                  · refine lv_tableIn (tgt := 951) hx hb dL_law_40 (by rw [c_24]; decide) (by rw [c_24]; decide) (by rw [c_24]; rfl) (by decide) ?_
                                                    exact law_choices C0 hAd hK (hP.sub [0, 3, 31, 33] rfl) (hD.sub [0, 3, 31, 33] (by decide) rfl) hS hl
                                                  · skip
                                                    by_cases c_25 : x = 25
                                                    · refine lv_tableIn (tgt := 988) hx hb dL_law_40 (by rw [c_25]; decide) (by rw [c_25]; decide) (by rw [c_25]; rfl) (by decide) ?_
                                                      exact law_choice C0 hAd hK (hP.sub [0, 30, 31] rfl) (hD.sub [0, 30, 31] (by decide) rfl) hS hl
                                                    · skip
                                                      by_cases c_26 : x = 26
                                                      · refine lv_tableIn (tgt := 1025) hx hb dL_law_40 (by rw [c_26]; decide) (by rw [c_26]; decide) (by rw [c_26]; rfl) (by decide) ?_
                                                        exact law_chosen C0 hAd hK (hP.sub [0, 30, 31] rfl) (hD.sub [0, 30, 31] (by decide) rfl) hS hl
                                                      · skip
                                                        refine lv_tableOut (tgt := 1050) hx hb dL_law_40 (by have z0 : ¬ Int32.toInt x = 0 := lv_neT c_0 rfl; have z1 : ¬ Int32.toInt x = 1 := lv_neT c_1 rfl; have z2 : ¬ Int32.toInt x = 2 := lv_neT c_2 rfl; have z3 : ¬ Int32.toInt x = 3 := lv_neT c_3 rfl; have z4 : ¬ Int32.toInt x = 4 := lv_neT c_4 rfl; have z5 : ¬ Int32.toInt x = 5 := lv_neT c_5 rfl; have z6 : ¬ Int32.toInt x = 6 := lv_neT c_6 rfl; have z7 : ¬ Int32.toInt x = 7 := lv_neT c_7 rfl; have z8 : ¬ Int32.toInt x = 8 := lv_neT c_8 rfl; have z9 : ¬ Int32.toInt x = 9 := lv_neT c_9 rfl; have z10 : ¬ Int32.toInt x = 10 := lv_neT c_10 rfl; have z11 : ¬ Int32.toInt x = 11 := lv_neT c_11 rfl; have z12 : ¬ Int32.toInt x = 12 := lv_neT c_12 rfl; have z13 : ¬ Int32.toInt x = 13 := lv_neT c_13 rfl; have z14 : ¬ Int32.toInt x = 14 := lv_neT c_14 rfl; have z15 : ¬ Int32.toInt x = 15 := lv_neT c_15 rfl; have z16 : ¬ Int32.toInt x = 16 := lv_neT c_16 rfl; have z17 : ¬ Int32.toInt x = 17 := lv_neT c_17 rfl; have z18 : ¬ Int32.toInt x = 18 := lv_neT c_18 rfl; have z19 : ¬ Int32.toInt x = 19 := lv_neT c_19 rfl; have z20 : ¬ Int32.toInt x = 20 := lv_neT c_20 rfl; have z21 : ¬ Int32.toInt x = 21 := lv_neT c_21 rfl; have z22 : ¬ Int32.toInt x = 22 := lv_neT c_22 rfl; have z23 : ¬ Int32.toInt x = 23 := lv_neT c_23 rfl; have z24 : ¬ Int32.toInt x = 24 := lv_neT c_24 rfl; have z25 : ¬ Int32.toInt x = 25 := lv_neT c_25 rfl; have z26 : ¬ Int32.toInt x = 26 := lv_neT c_26 rfl; omega) (by decide) ?_
                                                        exact law_over C0 hAd hS hl
