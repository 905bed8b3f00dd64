/-! the law's loop, and the law -/
set_option maxHeartbeats 4000000 in
set_option maxRecDepth 100000 in
/-- the law's loop: shelf and reference stand for one value -/
theorem law_loop {p : Program} {l : Launch} {e : Env} {s : State} {m : MethodId} {below : List Frame} {meth : Method} {c : Code} {dC : Nat → ClassId} {dI : Nat → Nat → Nat} {b L : Nat} {xs : Nat → Int32} {a0 a1 a2 a3 b0 b1 b2 b3 b4 : Nat} {cB cT d1 d2 d3 d4 : ClassId} (hL : L ≤ 2560) (C0 : lw_At p s m meth c b L xs) (hKc : va_K (dC, dI) vwCl [(cB, .byte), (cT, .object "ByteShelf$Row")] s) (hKm : va_K (dC, dI) vwCl [(d1, .byte), (d2, .int), (d3, .int), (d4, .int)] s) (uc : sf_Sx) (um : mw_S) (H : Heap) (locs : List Loc) (ls : Array Slot) (hOK : sf_OKu uc sf_z0) (hRm : mw_Ru um sf_z0) (hPc : va_P (dC, dI) vwCl (sf_w a0 a1 a2 a3 cB cT uc.1 uc.2.1 uc.2.2.1 uc.2.2.2.1 uc.2.2.2.2.1 uc.2.2.2.2.2.1 uc.2.2.2.2.2.2.1 uc.2.2.2.2.2.2.2.1 uc.2.2.2.2.2.2.2.2.1 uc.2.2.2.2.2.2.2.2.2.1 uc.2.2.2.2.2.2.2.2.2.2.1 uc.2.2.2.2.2.2.2.2.2.2.2.1 uc.2.2.2.2.2.2.2.2.2.2.2.2.1 uc.2.2.2.2.2.2.2.2.2.2.2.2.2.1 uc.2.2.2.2.2.2.2.2.2.2.2.2.2.2.1 uc.2.2.2.2.2.2.2.2.2.2.2.2.2.2.2) H) (hPm : va_P (dC, dI) vwCl (mw_w b0 b1 b2 b3 b4 d1 d2 d3 d4 um.1 um.2.1 um.2.2.1 um.2.2.2.1 um.2.2.2.2.1 um.2.2.2.2.2.1 um.2.2.2.2.2.2.1 um.2.2.2.2.2.2.2) H) (hD : va_D (fun q : Nat => s.heap.size ≤ q) ((sf_w a0 a1 a2 a3 cB cT uc.1 uc.2.1 uc.2.2.1 uc.2.2.2.1 uc.2.2.2.2.1 uc.2.2.2.2.2.1 uc.2.2.2.2.2.2.1 uc.2.2.2.2.2.2.2.1 uc.2.2.2.2.2.2.2.2.1 uc.2.2.2.2.2.2.2.2.2.1 uc.2.2.2.2.2.2.2.2.2.2.1 uc.2.2.2.2.2.2.2.2.2.2.2.1 uc.2.2.2.2.2.2.2.2.2.2.2.2.1 uc.2.2.2.2.2.2.2.2.2.2.2.2.2.1 uc.2.2.2.2.2.2.2.2.2.2.2.2.2.2.1 uc.2.2.2.2.2.2.2.2.2.2.2.2.2.2.2) ++ (mw_w b0 b1 b2 b3 b4 d1 d2 d3 d4 um.1 um.2.1 um.2.2.1 um.2.2.2.1 um.2.2.2.2.1 um.2.2.2.2.2.1 um.2.2.2.2.2.2.1 um.2.2.2.2.2.2.2))) (hS : va_S (fun q : Nat => s.heap.size ≤ q) s.heap H locs) (hl : lv_has ls 4 [(0, .ref b), (1, .ref a0), (2, .ref b0), (3, .int (nI 0))]) : W p l e room_1 s m #[Value.ref b] below meth c H locs 10 1000000 (lw_Z below #[Value.ref b] s) (F0 m 18 ls []) := by
  obtain ⟨hx, hb, hr, hml, hown0, hts, hX, hbl, hlocks, hgv⟩ := C0
  have hown : s.vm.findClass RL = some m.cls := hown0
  have hA : ∀ q : Nat, s.heap.size ≤ q → (fun q : Nat => s.heap.size ≤ q) q := fun _ h => h
  have hbA : ¬ (fun q : Nat => s.heap.size ≤ q) b := Nat.not_le.mpr hbl
  have hN : sf_N s := va_Nw.of rfl (hts _ mn_X0_30)
  refine lw_loop (σ := Nat × sf_Sx × mw_S × sf_Z) (fun u => 2560 - u.1) (fun u => 10 + u.1) (fun u => 1000000 + 6 * u.1) (fun u H locs ls => u.1 ≤ L ∧ sf_OKu u.2.1 u.2.2.2 ∧ mw_Ru u.2.2.1 u.2.2.2 ∧ zbal u.2.2.2 ∧ va_P (dC, dI) vwCl (sf_w a0 a1 a2 a3 cB cT u.2.1.1 u.2.1.2.1 u.2.1.2.2.1 u.2.1.2.2.2.1 u.2.1.2.2.2.2.1 u.2.1.2.2.2.2.2.1 u.2.1.2.2.2.2.2.2.1 u.2.1.2.2.2.2.2.2.2.1 u.2.1.2.2.2.2.2.2.2.2.1 u.2.1.2.2.2.2.2.2.2.2.2.1 u.2.1.2.2.2.2.2.2.2.2.2.2.1 u.2.1.2.2.2.2.2.2.2.2.2.2.2.1 u.2.1.2.2.2.2.2.2.2.2.2.2.2.2.1 u.2.1.2.2.2.2.2.2.2.2.2.2.2.2.2.1 u.2.1.2.2.2.2.2.2.2.2.2.2.2.2.2.2.1 u.2.1.2.2.2.2.2.2.2.2.2.2.2.2.2.2.2) H ∧ va_P (dC, dI) vwCl (mw_w b0 b1 b2 b3 b4 d1 d2 d3 d4 u.2.2.1.1 u.2.2.1.2.1 u.2.2.1.2.2.1 u.2.2.1.2.2.2.1 u.2.2.1.2.2.2.2.1 u.2.2.1.2.2.2.2.2.1 u.2.2.1.2.2.2.2.2.2.1 u.2.2.1.2.2.2.2.2.2.2) H ∧ va_D (fun q : Nat => s.heap.size ≤ q) ((sf_w a0 a1 a2 a3 cB cT u.2.1.1 u.2.1.2.1 u.2.1.2.2.1 u.2.1.2.2.2.1 u.2.1.2.2.2.2.1 u.2.1.2.2.2.2.2.1 u.2.1.2.2.2.2.2.2.1 u.2.1.2.2.2.2.2.2.2.1 u.2.1.2.2.2.2.2.2.2.2.1 u.2.1.2.2.2.2.2.2.2.2.2.1 u.2.1.2.2.2.2.2.2.2.2.2.2.1 u.2.1.2.2.2.2.2.2.2.2.2.2.2.1 u.2.1.2.2.2.2.2.2.2.2.2.2.2.2.1 u.2.1.2.2.2.2.2.2.2.2.2.2.2.2.2.1 u.2.1.2.2.2.2.2.2.2.2.2.2.2.2.2.2.1 u.2.1.2.2.2.2.2.2.2.2.2.2.2.2.2.2.2) ++ (mw_w b0 b1 b2 b3 b4 d1 d2 d3 d4 u.2.2.1.1 u.2.2.1.2.1 u.2.2.1.2.2.1 u.2.2.1.2.2.2.1 u.2.2.1.2.2.2.2.1 u.2.2.1.2.2.2.2.2.1 u.2.2.1.2.2.2.2.2.2.1 u.2.2.1.2.2.2.2.2.2.2)) ∧ va_S (fun q : Nat => s.heap.size ≤ q) s.heap H locs ∧ lv_has ls 4 [(0, .ref b), (1, .ref a0), (2, .ref b0), (3, .int (nI u.1))]) ?_ (0, uc, um, sf_z0) H locs ls ⟨Nat.zero_le _, hOK, hRm, rfl, hPc, hPm, hD, hS, hl⟩
  clear hl hS hD hPm hPc hRm hOK
  clear ls locs H uc um
  intro u H locs ls hI2 ih
  obtain ⟨i, uc, um, z⟩ := u
  obtain ⟨LP, gb, md, ct, tb, nm, tk, oc, en, fs, la, g, st, ln, bf, af⟩ := uc
  obtain ⟨us, nu, bm, tn, gm, za, ss, bk⟩ := um
  obtain ⟨k1, hOK, hRm, hbal, hPc, hPm, hD, hS, hl⟩ := hI2
  dsimp only at k1 hbal hPc hPm hD hl ih ⊢
  obtain ⟨cs, fr, hI, hRc⟩ := hOK
  have hRm : mw_R us nu bm tn gm za ss bk z := hRm
  have hI : sf_CI LP gb md ct tb nm tk oc en fs la g st ln bf af cs fr := hI
  have hRc : sf_CR LP nm tk ln st g cs fr ct oc z := hRc
  have hct := fun row => sf_ct hI hRc row
  obtain ⟨j, hj, ej⟩ := pk_andE (xs i) (m := nI 15) 4 (by decide)
  refine lv_iload_n hx hb dL_law_18 rfl (lv_at hl 3 rfl) ?_
  refine lv_aload_n hx hb dL_law_19 rfl (lv_at hl 0 rfl) ?_
  refine va_slen hx hb hX hbl hbA hS dL_law_20 ?_
  refine lv_iconst (v := nI 5) hx hb dL_law_21 (by decide) ?_
  refine lv_isub hx hb dL_law_22 ?_
  refine lv_icmp_gt (tgt := 448) hx hb dL_law_23 (by decide) (fun c_23 => ?_) (fun c_23 => ?_)
  · refine lv_iconst (v := 1) hx hb dL_law_448 (by decide) ?_
    refine va_forget (fun q hq => hS.2.2 q hq) ?_
    refine W.widen (k := 600000) (n := 7302250) (by omega) (by omega) ?_
    exact lw_ret hx hb hr hlocks dL_law_449
  · have hi5 : i + 5 ≤ L := sf_hb (by omega) (by decide) (by omega) c_23
    refine lv_aload_n hx hb dL_law_26 rfl (lv_at hl 0 rfl) ?_
    refine lv_iload_n hx hb dL_law_27 rfl (lv_at hl 3 rfl) ?_
    refine lw_sld hx hb hX hbl hbA hS (by omega) (by omega) dL_law_28 ?_
    refine lv_bipush (v := nI 15) hx hb dL_law_29 (by decide) ?_
    refine lv_iand hx hb dL_law_31 ?_
    rw [ej]
    rcases lw_16 hj with rfl | rfl | rfl | rfl | rfl | rfl | rfl | rfl | rfl | rfl | rfl | rfl | rfl | rfl | rfl | rfl
    · refine lv_tableIn (off := 64) (tgt := 96) hx hb dL_law_32 (by decide) (by decide) rfl (by decide) ?_
      refine lv_aload_n hx hb dL_law_96 rfl (lv_at hl 1 rfl) ?_
      refine lv_aload_n hx hb dL_law_97 rfl (lv_at hl 0 rfl) ?_
      refine lv_iload_n hx hb dL_law_98 rfl (lv_at hl 3 rfl) ?_
      refine lv_iconst (v := nI 1) hx hb dL_law_99 (by decide) ?_
      refine sf_iadd hx hb dL_law_100 ?_
      refine lw_sld hx hb hX hbl hbA hS (by omega) (by omega) dL_law_101 ?_
      refine lw_ci (sf_runV (b := a0) (As := [.int (xs (i + 1))]) (rest := []) ⟨hx, hb, hml, hown, hts⟩ sf_hasL (c_take l dC dI a0 a1 a2 a3 cB cT LP gb md ct tb nm tk oc en fs la g st ln bf af _ z cs fr hI hRc (xs (i + 1))) k_L_13 ⟨sf_blind, va_recv hKc hPc (ci := 2) (q0 := 0) rfl rfl, sf_preU hPc hKc (sf_Dl hD) hN⟩ rfl hl.1 (Nat.le_of_ble_eq_true rfl) ⟨(Nat.le_of_ble_eq_true rfl), (Nat.le_of_ble_eq_true rfl)⟩ ⟨rfl, rfl⟩ ⟨(by show 10 + i + 1 ≤ 600000; omega), (by show 1000000 + 6 * i + 6 ≤ 7302250; omega)⟩ dL_law_102) hPm hD hS hA (fun r1 u1 H locs h1 hPc hPm hD hS => ?_)
      obtain ⟨e1, hOK1⟩ := h1
      refine lv_aload_n hx hb dL_law_105 rfl (lv_at hl 2 rfl) ?_
      refine lv_aload_n hx hb dL_law_106 rfl (lv_at hl 0 rfl) ?_
      refine lv_iload_n hx hb dL_law_107 rfl (lv_at hl 3 rfl) ?_
      refine lv_iconst (v := nI 1) hx hb dL_law_108 (by decide) ?_
      refine sf_iadd hx hb dL_law_109 ?_
      refine lw_sld hx hb hX hbl hbA hS (by omega) (by omega) dL_law_110 ?_
      refine lw_ci (sf_runV (b := b0) (As := [.int (xs (i + 1))]) (rest := [.int r1]) ⟨hx, hb, hml, hown, hts⟩ sf_hasL (m_take l dC dI b0 b1 b2 b3 b4 d1 d2 d3 d4 us nu bm tn gm za ss bk _ z hRm (xs (i + 1)) hbal) k_L_17 ⟨sf_blind, va_recv hKm hPm (ci := 3) (q0 := 0) rfl rfl, sf_preU hPm hKm (sf_Dr hD) hN⟩ rfl hl.1 (Nat.le_of_ble_eq_true rfl) ⟨(Nat.le_of_ble_eq_true rfl), (Nat.le_of_ble_eq_true rfl)⟩ ⟨rfl, rfl⟩ ⟨(by show 10 + i + 1 + 0 ≤ 600000; omega), (by show 1000000 + 6 * i + 6 + 0 ≤ 7302250; omega)⟩ dL_law_111) hPc (sf_Ds hD) hS hA (fun r2 u2 H locs h2 hPm hPc hD hS => ?_)
      obtain ⟨e2, hRm2⟩ := h2
      refine lv_icmp_eq (tgt := 442) hx hb dL_law_114 (by decide) (fun _ => ?_) (fun c9 => absurd (by rw [e1, e2]) c9)
      refine W.widen (k := 10 + (i + 5)) (n := 1000000 + 6 * (i + 5)) (by omega) (by omega) ?_
      refine lv_iinc (v := nI (i + 5)) (lv' := [(3, .int (nI (i + 5))), (0, .ref b), (1, .ref a0), (2, .ref b0)]) hx hb dL_law_442 hl (k := 3) rfl (nI_add i 5) (by decide) rfl (fun ls hl => ?_)
      refine lv_goto (tgt := 18) hx hb dL_law_445 (by decide) ?_
      exact ih (i + 5, u1, u2, (zs_take z (xs (i + 1))).2) _ _ _ (by dsimp only; omega) ⟨hi5, hOK1, hRm2, zbal_take hbal (xs (i + 1)), hPc, hPm, sf_Ds hD, hS, lv_sub hl [1, 2, 3, 0] rfl⟩
    · refine lv_tableIn (off := 87) (tgt := 119) hx hb dL_law_32 (by decide) (by decide) rfl (by decide) ?_
      refine lv_aload_n hx hb dL_law_119 rfl (lv_at hl 1 rfl) ?_
      refine lv_aload_n hx hb dL_law_120 rfl (lv_at hl 0 rfl) ?_
      refine lv_iload_n hx hb dL_law_121 rfl (lv_at hl 3 rfl) ?_
      refine lv_iconst (v := nI 1) hx hb dL_law_122 (by decide) ?_
      refine sf_iadd hx hb dL_law_123 ?_
      refine lw_sld hx hb hX hbl hbA hS (by omega) (by omega) dL_law_124 ?_
      refine lw_ci (sf_runV (b := a0) (As := [.int (xs (i + 1))]) (rest := []) ⟨hx, hb, hml, hown, hts⟩ sf_hasL (c_give l dC dI a0 a1 a2 a3 cB cT LP gb md ct tb nm tk oc en fs la g st ln bf af _ z cs fr hI hRc (xs (i + 1))) k_L_18 ⟨sf_blind, va_recv hKc hPc (ci := 2) (q0 := 0) rfl rfl, sf_preU hPc hKc (sf_Dl hD) hN⟩ rfl hl.1 (Nat.le_of_ble_eq_true rfl) ⟨(Nat.le_of_ble_eq_true rfl), (Nat.le_of_ble_eq_true rfl)⟩ ⟨rfl, rfl⟩ ⟨(by show 10 + i + 0 ≤ 600000; omega), (by show 1000000 + 6 * i + 0 ≤ 7302250; omega)⟩ dL_law_125) hPm hD hS hA (fun r1 u1 H locs h1 hPc hPm hD hS => ?_)
      obtain ⟨e1, hOK1⟩ := h1
      refine lv_aload_n hx hb dL_law_128 rfl (lv_at hl 2 rfl) ?_
      refine lv_aload_n hx hb dL_law_129 rfl (lv_at hl 0 rfl) ?_
      refine lv_iload_n hx hb dL_law_130 rfl (lv_at hl 3 rfl) ?_
      refine lv_iconst (v := nI 1) hx hb dL_law_131 (by decide) ?_
      refine sf_iadd hx hb dL_law_132 ?_
      refine lw_sld hx hb hX hbl hbA hS (by omega) (by omega) dL_law_133 ?_
      refine lw_ci (sf_runV (b := b0) (As := [.int (xs (i + 1))]) (rest := [.int r1]) ⟨hx, hb, hml, hown, hts⟩ sf_hasL (m_give l dC dI b0 b1 b2 b3 b4 d1 d2 d3 d4 us nu bm tn gm za ss bk _ z hRm (xs (i + 1)) hbal (hct _)) k_L_22 ⟨sf_blind, va_recv hKm hPm (ci := 3) (q0 := 0) rfl rfl, sf_preU hPm hKm (sf_Dr hD) hN⟩ rfl hl.1 (Nat.le_of_ble_eq_true rfl) ⟨(Nat.le_of_ble_eq_true rfl), (Nat.le_of_ble_eq_true rfl)⟩ ⟨rfl, rfl⟩ ⟨(by show 10 + i + 0 + 0 ≤ 600000; omega), (by show 1000000 + 6 * i + 0 + 0 ≤ 7302250; omega)⟩ dL_law_134) hPc (sf_Ds hD) hS hA (fun r2 u2 H locs h2 hPm hPc hD hS => ?_)
      obtain ⟨e2, hRm2⟩ := h2
      refine lv_icmp_eq (tgt := 442) hx hb dL_law_137 (by decide) (fun _ => ?_) (fun c9 => absurd (by rw [e1, e2]) c9)
      refine W.widen (k := 10 + (i + 5)) (n := 1000000 + 6 * (i + 5)) (by omega) (by omega) ?_
      refine lv_iinc (v := nI (i + 5)) (lv' := [(3, .int (nI (i + 5))), (0, .ref b), (1, .ref a0), (2, .ref b0)]) hx hb dL_law_442 hl (k := 3) rfl (nI_add i 5) (by decide) rfl (fun ls hl => ?_)
      refine lv_goto (tgt := 18) hx hb dL_law_445 (by decide) ?_
      exact ih (i + 5, u1, u2, (zs_give z (xs (i + 1))).2) _ _ _ (by dsimp only; omega) ⟨hi5, hOK1, hRm2, zbal_give hbal _ (hct _), hPc, hPm, sf_Ds hD, hS, lv_sub hl [1, 2, 3, 0] rfl⟩
    · refine lv_tableIn (off := 110) (tgt := 142) hx hb dL_law_32 (by decide) (by decide) rfl (by decide) ?_
      refine lv_aload_n hx hb dL_law_142 rfl (lv_at hl 1 rfl) ?_
      refine lv_aload_n hx hb dL_law_143 rfl (lv_at hl 0 rfl) ?_
      refine lv_iload_n hx hb dL_law_144 rfl (lv_at hl 3 rfl) ?_
      refine lv_iconst (v := nI 1) hx hb dL_law_145 (by decide) ?_
      refine sf_iadd hx hb dL_law_146 ?_
      refine lw_sld hx hb hX hbl hbA hS (by omega) (by omega) dL_law_147 ?_
      refine lv_aload_n hx hb dL_law_148 rfl (lv_at hl 0 rfl) ?_
      refine lv_iload_n hx hb dL_law_149 rfl (lv_at hl 3 rfl) ?_
      refine lv_iconst (v := nI 2) hx hb dL_law_150 (by decide) ?_
      refine sf_iadd hx hb dL_law_151 ?_
      refine lw_sld hx hb hX hbl hbA hS (by omega) (by omega) dL_law_152 ?_
      refine lw_ci (sf_runV (b := a0) (As := [.int (xs (i + 1)), .int (xs (i + 2))]) (rest := []) ⟨hx, hb, hml, hown, hts⟩ sf_hasL (c_resize l dC dI a0 a1 a2 a3 cB cT LP gb md ct tb nm tk oc en fs la g st ln bf af _ z cs fr hI hRc (xs (i + 1)) (xs (i + 2))) k_L_23 ⟨sf_blind, va_recv hKc hPc (ci := 2) (q0 := 0) rfl rfl, sf_preU hPc hKc (sf_Dl hD) hN⟩ rfl hl.1 (Nat.le_of_ble_eq_true rfl) ⟨(Nat.le_of_ble_eq_true rfl), (Nat.le_of_ble_eq_true rfl)⟩ ⟨rfl, rfl⟩ ⟨(by show 10 + i + 0 ≤ 600000; omega), (by show 1000000 + 6 * i + 0 ≤ 7302250; omega)⟩ dL_law_153) hPm hD hS hA (fun r1 u1 H locs h1 hPc hPm hD hS => ?_)
      obtain ⟨e1, hOK1⟩ := h1
      refine lv_aload_n hx hb dL_law_156 rfl (lv_at hl 2 rfl) ?_
      refine lv_aload_n hx hb dL_law_157 rfl (lv_at hl 0 rfl) ?_
      refine lv_iload_n hx hb dL_law_158 rfl (lv_at hl 3 rfl) ?_
      refine lv_iconst (v := nI 1) hx hb dL_law_159 (by decide) ?_
      refine sf_iadd hx hb dL_law_160 ?_
      refine lw_sld hx hb hX hbl hbA hS (by omega) (by omega) dL_law_161 ?_
      refine lv_aload_n hx hb dL_law_162 rfl (lv_at hl 0 rfl) ?_
      refine lv_iload_n hx hb dL_law_163 rfl (lv_at hl 3 rfl) ?_
      refine lv_iconst (v := nI 2) hx hb dL_law_164 (by decide) ?_
      refine sf_iadd hx hb dL_law_165 ?_
      refine lw_sld hx hb hX hbl hbA hS (by omega) (by omega) dL_law_166 ?_
      refine lw_ci (sf_runV (b := b0) (As := [.int (xs (i + 1)), .int (xs (i + 2))]) (rest := [.int r1]) ⟨hx, hb, hml, hown, hts⟩ sf_hasL (m_resize l dC dI b0 b1 b2 b3 b4 d1 d2 d3 d4 us nu bm tn gm za ss bk _ z hRm (xs (i + 1)) (xs (i + 2))) k_L_27 ⟨sf_blind, va_recv hKm hPm (ci := 3) (q0 := 0) rfl rfl, sf_preU hPm hKm (sf_Dr hD) hN⟩ rfl hl.1 (Nat.le_of_ble_eq_true rfl) ⟨(Nat.le_of_ble_eq_true rfl), (Nat.le_of_ble_eq_true rfl)⟩ ⟨rfl, rfl⟩ ⟨(by show 10 + i + 0 + 0 ≤ 600000; omega), (by show 1000000 + 6 * i + 0 + 0 ≤ 7302250; omega)⟩ dL_law_167) hPc (sf_Ds hD) hS hA (fun r2 u2 H locs h2 hPm hPc hD hS => ?_)
      obtain ⟨e2, hRm2⟩ := h2
      refine lv_icmp_eq (tgt := 442) hx hb dL_law_170 (by decide) (fun _ => ?_) (fun c9 => absurd (by rw [e1, e2]) c9)
      refine W.widen (k := 10 + (i + 5)) (n := 1000000 + 6 * (i + 5)) (by omega) (by omega) ?_
      refine lv_iinc (v := nI (i + 5)) (lv' := [(3, .int (nI (i + 5))), (0, .ref b), (1, .ref a0), (2, .ref b0)]) hx hb dL_law_442 hl (k := 3) rfl (nI_add i 5) (by decide) rfl (fun ls hl => ?_)
      refine lv_goto (tgt := 18) hx hb dL_law_445 (by decide) ?_
      exact ih (i + 5, u1, u2, (zs_resize z (xs (i + 1)) (xs (i + 2))).2) _ _ _ (by dsimp only; omega) ⟨hi5, hOK1, hRm2, zbal_resize hbal (xs (i + 1)) (xs (i + 2)), hPc, hPm, sf_Ds hD, hS, lv_sub hl [1, 2, 3, 0] rfl⟩
    · refine lv_tableIn (off := 143) (tgt := 175) hx hb dL_law_32 (by decide) (by decide) rfl (by decide) ?_
      refine lv_aload_n hx hb dL_law_175 rfl (lv_at hl 1 rfl) ?_
      refine lv_aload_n hx hb dL_law_176 rfl (lv_at hl 0 rfl) ?_
      refine lv_iload_n hx hb dL_law_177 rfl (lv_at hl 3 rfl) ?_
      refine lv_iconst (v := nI 1) hx hb dL_law_178 (by decide) ?_
      refine sf_iadd hx hb dL_law_179 ?_
      refine lw_sld hx hb hX hbl hbA hS (by omega) (by omega) dL_law_180 ?_
      refine lv_aload_n hx hb dL_law_181 rfl (lv_at hl 0 rfl) ?_
      refine lv_iload_n hx hb dL_law_182 rfl (lv_at hl 3 rfl) ?_
      refine lv_iconst (v := nI 2) hx hb dL_law_183 (by decide) ?_
      refine sf_iadd hx hb dL_law_184 ?_
      refine lw_sld hx hb hX hbl hbA hS (by omega) (by omega) dL_law_185 ?_
      refine lv_aload_n hx hb dL_law_186 rfl (lv_at hl 0 rfl) ?_
      refine lv_iload_n hx hb dL_law_187 rfl (lv_at hl 3 rfl) ?_
      refine lv_iconst (v := nI 3) hx hb dL_law_188 (by decide) ?_
      refine sf_iadd hx hb dL_law_189 ?_
      refine lw_sld hx hb hX hbl hbA hS (by omega) (by omega) dL_law_190 ?_
      refine lw_ci (sf_runV (b := a0) (As := [.int (xs (i + 1)), .int (xs (i + 2)), .int (xs (i + 3))]) (rest := []) ⟨hx, hb, hml, hown, hts⟩ sf_hasL (c_put l dC dI a0 a1 a2 a3 cB cT LP gb md ct tb nm tk oc en fs la g st ln bf af _ z cs fr hI hRc (xs (i + 1)) (xs (i + 2)) (xs (i + 3))) k_L_28 ⟨sf_blind, va_recv hKc hPc (ci := 2) (q0 := 0) rfl rfl, sf_preU hPc hKc (sf_Dl hD) hN⟩ rfl hl.1 (Nat.le_of_ble_eq_true rfl) ⟨(Nat.le_of_ble_eq_true rfl), (Nat.le_of_ble_eq_true rfl)⟩ ⟨rfl, rfl⟩ ⟨(by show 10 + i + 0 ≤ 600000; omega), (by show 1000000 + 6 * i + 0 ≤ 7302250; omega)⟩ dL_law_191) hPm hD hS hA (fun r1 u1 H locs h1 hPc hPm hD hS => ?_)
      obtain ⟨e1, hOK1⟩ := h1
      refine lv_aload_n hx hb dL_law_194 rfl (lv_at hl 2 rfl) ?_
      refine lv_aload_n hx hb dL_law_195 rfl (lv_at hl 0 rfl) ?_
      refine lv_iload_n hx hb dL_law_196 rfl (lv_at hl 3 rfl) ?_
      refine lv_iconst (v := nI 1) hx hb dL_law_197 (by decide) ?_
      refine sf_iadd hx hb dL_law_198 ?_
      refine lw_sld hx hb hX hbl hbA hS (by omega) (by omega) dL_law_199 ?_
      refine lv_aload_n hx hb dL_law_200 rfl (lv_at hl 0 rfl) ?_
      refine lv_iload_n hx hb dL_law_201 rfl (lv_at hl 3 rfl) ?_
      refine lv_iconst (v := nI 2) hx hb dL_law_202 (by decide) ?_
      refine sf_iadd hx hb dL_law_203 ?_
      refine lw_sld hx hb hX hbl hbA hS (by omega) (by omega) dL_law_204 ?_
      refine lv_aload_n hx hb dL_law_205 rfl (lv_at hl 0 rfl) ?_
      refine lv_iload_n hx hb dL_law_206 rfl (lv_at hl 3 rfl) ?_
      refine lv_iconst (v := nI 3) hx hb dL_law_207 (by decide) ?_
      refine sf_iadd hx hb dL_law_208 ?_
      refine lw_sld hx hb hX hbl hbA hS (by omega) (by omega) dL_law_209 ?_
      refine lw_ci (sf_runV (b := b0) (As := [.int (xs (i + 1)), .int (xs (i + 2)), .int (xs (i + 3))]) (rest := [.int r1]) ⟨hx, hb, hml, hown, hts⟩ sf_hasL (m_put l dC dI b0 b1 b2 b3 b4 d1 d2 d3 d4 us nu bm tn gm za ss bk _ z hRm (xs (i + 1)) (xs (i + 2)) (xs (i + 3))) k_L_32 ⟨sf_blind, va_recv hKm hPm (ci := 3) (q0 := 0) rfl rfl, sf_preU hPm hKm (sf_Dr hD) hN⟩ rfl hl.1 (Nat.le_of_ble_eq_true rfl) ⟨(Nat.le_of_ble_eq_true rfl), (Nat.le_of_ble_eq_true rfl)⟩ ⟨rfl, rfl⟩ ⟨(by show 10 + i + 0 + 0 ≤ 600000; omega), (by show 1000000 + 6 * i + 0 + 0 ≤ 7302250; omega)⟩ dL_law_210) hPc (sf_Ds hD) hS hA (fun r2 u2 H locs h2 hPm hPc hD hS => ?_)
      obtain ⟨e2, hRm2⟩ := h2
      refine lv_icmp_eq (tgt := 442) hx hb dL_law_213 (by decide) (fun _ => ?_) (fun c9 => absurd (by rw [e1, e2]) c9)
      refine W.widen (k := 10 + (i + 5)) (n := 1000000 + 6 * (i + 5)) (by omega) (by omega) ?_
      refine lv_iinc (v := nI (i + 5)) (lv' := [(3, .int (nI (i + 5))), (0, .ref b), (1, .ref a0), (2, .ref b0)]) hx hb dL_law_442 hl (k := 3) rfl (nI_add i 5) (by decide) rfl (fun ls hl => ?_)
      refine lv_goto (tgt := 18) hx hb dL_law_445 (by decide) ?_
      exact ih (i + 5, u1, u2, (zs_put z (xs (i + 1)) (xs (i + 2)) (xs (i + 3))).2) _ _ _ (by dsimp only; omega) ⟨hi5, hOK1, hRm2, zbal_put hbal (xs (i + 1)) (xs (i + 2)) (xs (i + 3)), hPc, hPm, sf_Ds hD, hS, lv_sub hl [1, 2, 3, 0] rfl⟩
    · refine lv_tableIn (off := 186) (tgt := 218) hx hb dL_law_32 (by decide) (by decide) rfl (by decide) ?_
      refine lv_aload_n hx hb dL_law_218 rfl (lv_at hl 1 rfl) ?_
      refine lv_aload_n hx hb dL_law_219 rfl (lv_at hl 0 rfl) ?_
      refine lv_iload_n hx hb dL_law_220 rfl (lv_at hl 3 rfl) ?_
      refine lv_iconst (v := nI 1) hx hb dL_law_221 (by decide) ?_
      refine sf_iadd hx hb dL_law_222 ?_
      refine lw_sld hx hb hX hbl hbA hS (by omega) (by omega) dL_law_223 ?_
      refine lv_aload_n hx hb dL_law_224 rfl (lv_at hl 0 rfl) ?_
      refine lv_iload_n hx hb dL_law_225 rfl (lv_at hl 3 rfl) ?_
      refine lv_iconst (v := nI 2) hx hb dL_law_226 (by decide) ?_
      refine sf_iadd hx hb dL_law_227 ?_
      refine lw_sld hx hb hX hbl hbA hS (by omega) (by omega) dL_law_228 ?_
      refine lv_aload_n hx hb dL_law_229 rfl (lv_at hl 0 rfl) ?_
      refine lv_iload_n hx hb dL_law_230 rfl (lv_at hl 3 rfl) ?_
      refine lv_iconst (v := nI 3) hx hb dL_law_231 (by decide) ?_
      refine sf_iadd hx hb dL_law_232 ?_
      refine lw_sld hx hb hX hbl hbA hS (by omega) (by omega) dL_law_233 ?_
      refine lv_aload_n hx hb dL_law_234 rfl (lv_at hl 0 rfl) ?_
      refine lv_iload_n hx hb dL_law_235 rfl (lv_at hl 3 rfl) ?_
      refine lv_iconst (v := nI 4) hx hb dL_law_236 (by decide) ?_
      refine sf_iadd hx hb dL_law_237 ?_
      refine lw_sld hx hb hX hbl hbA hS (by omega) (by omega) dL_law_238 ?_
      refine lw_ci (sf_runV (b := a0) (As := [.int (xs (i + 1)), .int (xs (i + 2)), .int (xs (i + 3)), .int (xs (i + 4))]) (rest := []) ⟨hx, hb, hml, hown, hts⟩ sf_hasL (c_fill l dC dI a0 a1 a2 a3 cB cT LP gb md ct tb nm tk oc en fs la g st ln bf af _ z cs fr hI hRc (xs (i + 1)) (xs (i + 2)) (xs (i + 3)) (xs (i + 4))) k_L_33 ⟨sf_blind, va_recv hKc hPc (ci := 2) (q0 := 0) rfl rfl, sf_preU hPc hKc (sf_Dl hD) hN⟩ rfl hl.1 (Nat.le_of_ble_eq_true rfl) ⟨(Nat.le_of_ble_eq_true rfl), (Nat.le_of_ble_eq_true rfl)⟩ ⟨rfl, rfl⟩ ⟨(by show 10 + i + 0 ≤ 600000; omega), (by show 1000000 + 6 * i + 0 ≤ 7302250; omega)⟩ dL_law_239) hPm hD hS hA (fun r1 u1 H locs h1 hPc hPm hD hS => ?_)
      obtain ⟨e1, hOK1⟩ := h1
      refine lv_aload_n hx hb dL_law_242 rfl (lv_at hl 2 rfl) ?_
      refine lv_aload_n hx hb dL_law_243 rfl (lv_at hl 0 rfl) ?_
      refine lv_iload_n hx hb dL_law_244 rfl (lv_at hl 3 rfl) ?_
      refine lv_iconst (v := nI 1) hx hb dL_law_245 (by decide) ?_
      refine sf_iadd hx hb dL_law_246 ?_
      refine lw_sld hx hb hX hbl hbA hS (by omega) (by omega) dL_law_247 ?_
      refine lv_aload_n hx hb dL_law_248 rfl (lv_at hl 0 rfl) ?_
      refine lv_iload_n hx hb dL_law_249 rfl (lv_at hl 3 rfl) ?_
      refine lv_iconst (v := nI 2) hx hb dL_law_250 (by decide) ?_
      refine sf_iadd hx hb dL_law_251 ?_
      refine lw_sld hx hb hX hbl hbA hS (by omega) (by omega) dL_law_252 ?_
      refine lv_aload_n hx hb dL_law_253 rfl (lv_at hl 0 rfl) ?_
      refine lv_iload_n hx hb dL_law_254 rfl (lv_at hl 3 rfl) ?_
      refine lv_iconst (v := nI 3) hx hb dL_law_255 (by decide) ?_
      refine sf_iadd hx hb dL_law_256 ?_
      refine lw_sld hx hb hX hbl hbA hS (by omega) (by omega) dL_law_257 ?_
      refine lv_aload_n hx hb dL_law_258 rfl (lv_at hl 0 rfl) ?_
      refine lv_iload_n hx hb dL_law_259 rfl (lv_at hl 3 rfl) ?_
      refine lv_iconst (v := nI 4) hx hb dL_law_260 (by decide) ?_
      refine sf_iadd hx hb dL_law_261 ?_
      refine lw_sld hx hb hX hbl hbA hS (by omega) (by omega) dL_law_262 ?_
      refine lw_ci (sf_runV (b := b0) (As := [.int (xs (i + 1)), .int (xs (i + 2)), .int (xs (i + 3)), .int (xs (i + 4))]) (rest := [.int r1]) ⟨hx, hb, hml, hown, hts⟩ sf_hasL (m_fill l dC dI b0 b1 b2 b3 b4 d1 d2 d3 d4 us nu bm tn gm za ss bk _ z hRm (xs (i + 1)) (xs (i + 2)) (xs (i + 3)) (xs (i + 4))) k_L_37 ⟨sf_blind, va_recv hKm hPm (ci := 3) (q0 := 0) rfl rfl, sf_preU hPm hKm (sf_Dr hD) hN⟩ rfl hl.1 (Nat.le_of_ble_eq_true rfl) ⟨(Nat.le_of_ble_eq_true rfl), (Nat.le_of_ble_eq_true rfl)⟩ ⟨rfl, rfl⟩ ⟨(by show 10 + i + 0 + 0 ≤ 600000; omega), (by show 1000000 + 6 * i + 0 + 0 ≤ 7302250; omega)⟩ dL_law_263) hPc (sf_Ds hD) hS hA (fun r2 u2 H locs h2 hPm hPc hD hS => ?_)
      obtain ⟨e2, hRm2⟩ := h2
      refine lv_icmp_eq (tgt := 442) hx hb dL_law_266 (by decide) (fun _ => ?_) (fun c9 => absurd (by rw [e1, e2]) c9)
      refine W.widen (k := 10 + (i + 5)) (n := 1000000 + 6 * (i + 5)) (by omega) (by omega) ?_
      refine lv_iinc (v := nI (i + 5)) (lv' := [(3, .int (nI (i + 5))), (0, .ref b), (1, .ref a0), (2, .ref b0)]) hx hb dL_law_442 hl (k := 3) rfl (nI_add i 5) (by decide) rfl (fun ls hl => ?_)
      refine lv_goto (tgt := 18) hx hb dL_law_445 (by decide) ?_
      exact ih (i + 5, u1, u2, (zs_fill z (xs (i + 1)) (xs (i + 2)) (xs (i + 3)) (xs (i + 4))).2) _ _ _ (by dsimp only; omega) ⟨hi5, hOK1, hRm2, zbal_fill hbal (xs (i + 1)) (xs (i + 2)) (xs (i + 3)) (xs (i + 4)), hPc, hPm, sf_Ds hD, hS, lv_sub hl [1, 2, 3, 0] rfl⟩
    · refine lv_tableIn (off := 239) (tgt := 271) hx hb dL_law_32 (by decide) (by decide) rfl (by decide) ?_
      refine lv_aload_n hx hb dL_law_271 rfl (lv_at hl 1 rfl) ?_
      refine lv_aload_n hx hb dL_law_272 rfl (lv_at hl 0 rfl) ?_
      refine lv_iload_n hx hb dL_law_273 rfl (lv_at hl 3 rfl) ?_
      refine lv_iconst (v := nI 1) hx hb dL_law_274 (by decide) ?_
      refine sf_iadd hx hb dL_law_275 ?_
      refine lw_sld hx hb hX hbl hbA hS (by omega) (by omega) dL_law_276 ?_
      refine lv_aload_n hx hb dL_law_277 rfl (lv_at hl 0 rfl) ?_
      refine lv_iload_n hx hb dL_law_278 rfl (lv_at hl 3 rfl) ?_
      refine lv_iconst (v := nI 2) hx hb dL_law_279 (by decide) ?_
      refine sf_iadd hx hb dL_law_280 ?_
      refine lw_sld hx hb hX hbl hbA hS (by omega) (by omega) dL_law_281 ?_
      refine lw_ci (sf_runV (b := a0) (As := [.int (xs (i + 1)), .int (xs (i + 2))]) (rest := []) ⟨hx, hb, hml, hown, hts⟩ sf_hasL (c_copy l dC dI a0 a1 a2 a3 cB cT LP gb md ct tb nm tk oc en fs la g st ln bf af _ z cs fr hI hRc (xs (i + 1)) (xs (i + 2))) k_L_38 ⟨sf_blind, va_recv hKc hPc (ci := 2) (q0 := 0) rfl rfl, sf_preU hPc hKc (sf_Dl hD) hN⟩ rfl hl.1 (Nat.le_of_ble_eq_true rfl) ⟨(Nat.le_of_ble_eq_true rfl), (Nat.le_of_ble_eq_true rfl)⟩ ⟨rfl, rfl⟩ ⟨(by show 10 + i + 0 ≤ 600000; omega), (by show 1000000 + 6 * i + 0 ≤ 7302250; omega)⟩ dL_law_282) hPm hD hS hA (fun r1 u1 H locs h1 hPc hPm hD hS => ?_)
      obtain ⟨e1, hOK1⟩ := h1
      refine lv_aload_n hx hb dL_law_285 rfl (lv_at hl 2 rfl) ?_
      refine lv_aload_n hx hb dL_law_286 rfl (lv_at hl 0 rfl) ?_
      refine lv_iload_n hx hb dL_law_287 rfl (lv_at hl 3 rfl) ?_
      refine lv_iconst (v := nI 1) hx hb dL_law_288 (by decide) ?_
      refine sf_iadd hx hb dL_law_289 ?_
      refine lw_sld hx hb hX hbl hbA hS (by omega) (by omega) dL_law_290 ?_
      refine lv_aload_n hx hb dL_law_291 rfl (lv_at hl 0 rfl) ?_
      refine lv_iload_n hx hb dL_law_292 rfl (lv_at hl 3 rfl) ?_
      refine lv_iconst (v := nI 2) hx hb dL_law_293 (by decide) ?_
      refine sf_iadd hx hb dL_law_294 ?_
      refine lw_sld hx hb hX hbl hbA hS (by omega) (by omega) dL_law_295 ?_
      refine lw_ci (sf_runV (b := b0) (As := [.int (xs (i + 1)), .int (xs (i + 2))]) (rest := [.int r1]) ⟨hx, hb, hml, hown, hts⟩ sf_hasL (m_copy l dC dI b0 b1 b2 b3 b4 d1 d2 d3 d4 us nu bm tn gm za ss bk _ z hRm (xs (i + 1)) (xs (i + 2))) k_L_41 ⟨sf_blind, va_recv hKm hPm (ci := 3) (q0 := 0) rfl rfl, sf_preU hPm hKm (sf_Dr hD) hN⟩ rfl hl.1 (Nat.le_of_ble_eq_true rfl) ⟨(Nat.le_of_ble_eq_true rfl), (Nat.le_of_ble_eq_true rfl)⟩ ⟨rfl, rfl⟩ ⟨(by show 10 + i + 0 + 0 ≤ 600000; omega), (by show 1000000 + 6 * i + 0 + 0 ≤ 7302250; omega)⟩ dL_law_296) hPc (sf_Ds hD) hS hA (fun r2 u2 H locs h2 hPm hPc hD hS => ?_)
      obtain ⟨e2, hRm2⟩ := h2
      refine lv_icmp_eq (tgt := 442) hx hb dL_law_299 (by decide) (fun _ => ?_) (fun c9 => absurd (by rw [e1, e2]) c9)
      refine W.widen (k := 10 + (i + 5)) (n := 1000000 + 6 * (i + 5)) (by omega) (by omega) ?_
      refine lv_iinc (v := nI (i + 5)) (lv' := [(3, .int (nI (i + 5))), (0, .ref b), (1, .ref a0), (2, .ref b0)]) hx hb dL_law_442 hl (k := 3) rfl (nI_add i 5) (by decide) rfl (fun ls hl => ?_)
      refine lv_goto (tgt := 18) hx hb dL_law_445 (by decide) ?_
      exact ih (i + 5, u1, u2, (zs_copy z (xs (i + 1)) (xs (i + 2))).2) _ _ _ (by dsimp only; omega) ⟨hi5, hOK1, hRm2, zbal_copy hbal (xs (i + 1)) (xs (i + 2)), hPc, hPm, sf_Ds hD, hS, lv_sub hl [1, 2, 3, 0] rfl⟩
    · refine lv_tableIn (off := 272) (tgt := 304) hx hb dL_law_32 (by decide) (by decide) rfl (by decide) ?_
      refine lv_aload_n hx hb dL_law_304 rfl (lv_at hl 1 rfl) ?_
      refine lv_aload_n hx hb dL_law_305 rfl (lv_at hl 0 rfl) ?_
      refine lv_iload_n hx hb dL_law_306 rfl (lv_at hl 3 rfl) ?_
      refine lv_iconst (v := nI 1) hx hb dL_law_307 (by decide) ?_
      refine sf_iadd hx hb dL_law_308 ?_
      refine lw_sld hx hb hX hbl hbA hS (by omega) (by omega) dL_law_309 ?_
      refine lv_aload_n hx hb dL_law_310 rfl (lv_at hl 0 rfl) ?_
      refine lv_iload_n hx hb dL_law_311 rfl (lv_at hl 3 rfl) ?_
      refine lv_iconst (v := nI 2) hx hb dL_law_312 (by decide) ?_
      refine sf_iadd hx hb dL_law_313 ?_
      refine lw_sld hx hb hX hbl hbA hS (by omega) (by omega) dL_law_314 ?_
      refine vp_callSi (va_Run.run (sf_runV (b := a0) (As := [.int (xs (i + 1)), .int (xs (i + 2))]) (rest := []) ⟨hx, hb, hml, hown, hts⟩ sf_hasL (c_get l dC dI a0 a1 a2 a3 cB cT LP gb md ct tb nm tk oc en fs la g st ln bf af _ z cs fr hI hRc (xs (i + 1)) (xs (i + 2))) k_L_42 ⟨sf_blind, va_recv hKc hPc (ci := 2) (q0 := 0) rfl rfl, sf_preU hPc hKc (sf_Dl hD) hN⟩ rfl hl.1 (Nat.le_of_ble_eq_true rfl) ⟨(Nat.le_of_ble_eq_true rfl), (Nat.le_of_ble_eq_true rfl)⟩ ⟨rfl, rfl⟩ ⟨(by show 10 + i + 0 ≤ 600000; omega), (by show 1000000 + 6 * i + 0 ≤ 7302250; omega)⟩ dL_law_315)) (fun r1 e1 => ?_)
      refine lv_aload_n hx hb dL_law_318 rfl (lv_at hl 2 rfl) ?_
      refine lv_aload_n hx hb dL_law_319 rfl (lv_at hl 0 rfl) ?_
      refine lv_iload_n hx hb dL_law_320 rfl (lv_at hl 3 rfl) ?_
      refine lv_iconst (v := nI 1) hx hb dL_law_321 (by decide) ?_
      refine sf_iadd hx hb dL_law_322 ?_
      refine lw_sld hx hb hX hbl hbA hS (by omega) (by omega) dL_law_323 ?_
      refine lv_aload_n hx hb dL_law_324 rfl (lv_at hl 0 rfl) ?_
      refine lv_iload_n hx hb dL_law_325 rfl (lv_at hl 3 rfl) ?_
      refine lv_iconst (v := nI 2) hx hb dL_law_326 (by decide) ?_
      refine sf_iadd hx hb dL_law_327 ?_
      refine lw_sld hx hb hX hbl hbA hS (by omega) (by omega) dL_law_328 ?_
      refine vp_callSi (va_Run.run (sf_runV (b := b0) (As := [.int (xs (i + 1)), .int (xs (i + 2))]) (rest := [.int r1]) ⟨hx, hb, hml, hown, hts⟩ sf_hasL (m_get l dC dI b0 b1 b2 b3 b4 d1 d2 d3 d4 us nu bm tn gm za ss bk _ z hRm (xs (i + 1)) (xs (i + 2))) k_L_45 ⟨sf_blind, va_recv hKm hPm (ci := 3) (q0 := 0) rfl rfl, sf_preU hPm hKm (sf_Dr hD) hN⟩ rfl hl.1 (Nat.le_of_ble_eq_true rfl) ⟨(Nat.le_of_ble_eq_true rfl), (Nat.le_of_ble_eq_true rfl)⟩ ⟨rfl, rfl⟩ ⟨(by show 10 + i + 0 ≤ 600000; omega), (by show 1000000 + 6 * i + 0 ≤ 7302250; omega)⟩ dL_law_329)) (fun r2 e2 => ?_)
      refine lv_icmp_eq (tgt := 442) hx hb dL_law_332 (by decide) (fun _ => ?_) (fun c9 => absurd (by rw [e1, e2]) c9)
      refine W.widen (k := 10 + (i + 5)) (n := 1000000 + 6 * (i + 5)) (by omega) (by omega) ?_
      refine lv_iinc (v := nI (i + 5)) (lv' := [(3, .int (nI (i + 5))), (0, .ref b), (1, .ref a0), (2, .ref b0)]) hx hb dL_law_442 hl (k := 3) rfl (nI_add i 5) (by decide) rfl (fun ls hl => ?_)
      refine lv_goto (tgt := 18) hx hb dL_law_445 (by decide) ?_
      exact ih (i + 5, (LP, gb, md, ct, tb, nm, tk, oc, en, fs, la, g, st, ln, bf, af), (us, nu, bm, tn, gm, za, ss, bk), z) _ _ _ (by dsimp only; omega) ⟨hi5, ⟨cs, fr, hI, hRc⟩, hRm, hbal, hPc, hPm, hD, hS, lv_sub hl [1, 2, 3, 0] rfl⟩
    · refine lv_tableIn (off := 305) (tgt := 337) hx hb dL_law_32 (by decide) (by decide) rfl (by decide) ?_
      refine lv_aload_n hx hb dL_law_337 rfl (lv_at hl 1 rfl) ?_
      refine lv_aload_n hx hb dL_law_338 rfl (lv_at hl 0 rfl) ?_
      refine lv_iload_n hx hb dL_law_339 rfl (lv_at hl 3 rfl) ?_
      refine lv_iconst (v := nI 1) hx hb dL_law_340 (by decide) ?_
      refine sf_iadd hx hb dL_law_341 ?_
      refine lw_sld hx hb hX hbl hbA hS (by omega) (by omega) dL_law_342 ?_
      refine vp_callSi (va_Run.run (sf_runV (b := a0) (As := [.int (xs (i + 1))]) (rest := []) ⟨hx, hb, hml, hown, hts⟩ sf_hasL (c_size l dC dI a0 a1 a2 a3 cB cT LP gb md ct tb nm tk oc en fs la g st ln bf af _ z cs fr hI hRc (xs (i + 1))) k_L_46 ⟨sf_blind, va_recv hKc hPc (ci := 2) (q0 := 0) rfl rfl, sf_preU hPc hKc (sf_Dl hD) hN⟩ rfl hl.1 (Nat.le_of_ble_eq_true rfl) ⟨(Nat.le_of_ble_eq_true rfl), (Nat.le_of_ble_eq_true rfl)⟩ ⟨rfl, rfl⟩ ⟨(by show 10 + i + 0 ≤ 600000; omega), (by show 1000000 + 6 * i + 0 ≤ 7302250; omega)⟩ dL_law_343)) (fun r1 e1 => ?_)
      refine lv_aload_n hx hb dL_law_346 rfl (lv_at hl 2 rfl) ?_
      refine lv_aload_n hx hb dL_law_347 rfl (lv_at hl 0 rfl) ?_
      refine lv_iload_n hx hb dL_law_348 rfl (lv_at hl 3 rfl) ?_
      refine lv_iconst (v := nI 1) hx hb dL_law_349 (by decide) ?_
      refine sf_iadd hx hb dL_law_350 ?_
      refine lw_sld hx hb hX hbl hbA hS (by omega) (by omega) dL_law_351 ?_
      refine vp_callSi (va_Run.run (sf_runV (b := b0) (As := [.int (xs (i + 1))]) (rest := [.int r1]) ⟨hx, hb, hml, hown, hts⟩ sf_hasL (m_size l dC dI b0 b1 b2 b3 b4 d1 d2 d3 d4 us nu bm tn gm za ss bk _ z hRm (xs (i + 1))) k_L_49 ⟨sf_blind, va_recv hKm hPm (ci := 3) (q0 := 0) rfl rfl, sf_preU hPm hKm (sf_Dr hD) hN⟩ rfl hl.1 (Nat.le_of_ble_eq_true rfl) ⟨(Nat.le_of_ble_eq_true rfl), (Nat.le_of_ble_eq_true rfl)⟩ ⟨rfl, rfl⟩ ⟨(by show 10 + i + 0 ≤ 600000; omega), (by show 1000000 + 6 * i + 0 ≤ 7302250; omega)⟩ dL_law_352)) (fun r2 e2 => ?_)
      refine lv_icmp_eq (tgt := 442) hx hb dL_law_355 (by decide) (fun _ => ?_) (fun c9 => absurd (by rw [e1, e2]) c9)
      refine W.widen (k := 10 + (i + 5)) (n := 1000000 + 6 * (i + 5)) (by omega) (by omega) ?_
      refine lv_iinc (v := nI (i + 5)) (lv' := [(3, .int (nI (i + 5))), (0, .ref b), (1, .ref a0), (2, .ref b0)]) hx hb dL_law_442 hl (k := 3) rfl (nI_add i 5) (by decide) rfl (fun ls hl => ?_)
      refine lv_goto (tgt := 18) hx hb dL_law_445 (by decide) ?_
      exact ih (i + 5, (LP, gb, md, ct, tb, nm, tk, oc, en, fs, la, g, st, ln, bf, af), (us, nu, bm, tn, gm, za, ss, bk), z) _ _ _ (by dsimp only; omega) ⟨hi5, ⟨cs, fr, hI, hRc⟩, hRm, hbal, hPc, hPm, hD, hS, lv_sub hl [1, 2, 3, 0] rfl⟩
    · refine lv_tableIn (off := 328) (tgt := 360) hx hb dL_law_32 (by decide) (by decide) rfl (by decide) ?_
      refine lv_aload_n hx hb dL_law_360 rfl (lv_at hl 1 rfl) ?_
      refine lv_aload_n hx hb dL_law_361 rfl (lv_at hl 0 rfl) ?_
      refine lv_iload_n hx hb dL_law_362 rfl (lv_at hl 3 rfl) ?_
      refine lv_iconst (v := nI 1) hx hb dL_law_363 (by decide) ?_
      refine sf_iadd hx hb dL_law_364 ?_
      refine lw_sld hx hb hX hbl hbA hS (by omega) (by omega) dL_law_365 ?_
      refine lv_aload_n hx hb dL_law_366 rfl (lv_at hl 0 rfl) ?_
      refine lv_iload_n hx hb dL_law_367 rfl (lv_at hl 3 rfl) ?_
      refine lv_iconst (v := nI 2) hx hb dL_law_368 (by decide) ?_
      refine sf_iadd hx hb dL_law_369 ?_
      refine lw_sld hx hb hX hbl hbA hS (by omega) (by omega) dL_law_370 ?_
      refine vp_callSi (va_Run.run (sf_runV (b := a0) (As := [.int (xs (i + 1)), .int (xs (i + 2))]) (rest := []) ⟨hx, hb, hml, hown, hts⟩ sf_hasL (c_compare l dC dI a0 a1 a2 a3 cB cT LP gb md ct tb nm tk oc en fs la g st ln bf af _ z cs fr hI hRc (xs (i + 1)) (xs (i + 2))) k_L_50 ⟨sf_blind, va_recv hKc hPc (ci := 2) (q0 := 0) rfl rfl, sf_preU hPc hKc (sf_Dl hD) hN⟩ rfl hl.1 (Nat.le_of_ble_eq_true rfl) ⟨(Nat.le_of_ble_eq_true rfl), (Nat.le_of_ble_eq_true rfl)⟩ ⟨rfl, rfl⟩ ⟨(by show 10 + i + 0 ≤ 600000; omega), (by show 1000000 + 6 * i + 0 ≤ 7302250; omega)⟩ dL_law_371)) (fun r1 e1 => ?_)
      refine lv_aload_n hx hb dL_law_374 rfl (lv_at hl 2 rfl) ?_
      refine lv_aload_n hx hb dL_law_375 rfl (lv_at hl 0 rfl) ?_
      refine lv_iload_n hx hb dL_law_376 rfl (lv_at hl 3 rfl) ?_
      refine lv_iconst (v := nI 1) hx hb dL_law_377 (by decide) ?_
      refine sf_iadd hx hb dL_law_378 ?_
      refine lw_sld hx hb hX hbl hbA hS (by omega) (by omega) dL_law_379 ?_
      refine lv_aload_n hx hb dL_law_380 rfl (lv_at hl 0 rfl) ?_
      refine lv_iload_n hx hb dL_law_381 rfl (lv_at hl 3 rfl) ?_
      refine lv_iconst (v := nI 2) hx hb dL_law_382 (by decide) ?_
      refine sf_iadd hx hb dL_law_383 ?_
      refine lw_sld hx hb hX hbl hbA hS (by omega) (by omega) dL_law_384 ?_
      refine vp_callSi (va_Run.run (sf_runV (b := b0) (As := [.int (xs (i + 1)), .int (xs (i + 2))]) (rest := [.int r1]) ⟨hx, hb, hml, hown, hts⟩ sf_hasL (m_compare l dC dI b0 b1 b2 b3 b4 d1 d2 d3 d4 us nu bm tn gm za ss bk _ z hRm (xs (i + 1)) (xs (i + 2))) k_L_53 ⟨sf_blind, va_recv hKm hPm (ci := 3) (q0 := 0) rfl rfl, sf_preU hPm hKm (sf_Dr hD) hN⟩ rfl hl.1 (Nat.le_of_ble_eq_true rfl) ⟨(Nat.le_of_ble_eq_true rfl), (Nat.le_of_ble_eq_true rfl)⟩ ⟨rfl, rfl⟩ ⟨(by show 10 + i + 0 ≤ 600000; omega), (by show 1000000 + 6 * i + 0 ≤ 7302250; omega)⟩ dL_law_385)) (fun r2 e2 => ?_)
      refine lv_icmp_eq (tgt := 442) hx hb dL_law_388 (by decide) (fun _ => ?_) (fun c9 => absurd (by rw [e1, e2]) c9)
      refine W.widen (k := 10 + (i + 5)) (n := 1000000 + 6 * (i + 5)) (by omega) (by omega) ?_
      refine lv_iinc (v := nI (i + 5)) (lv' := [(3, .int (nI (i + 5))), (0, .ref b), (1, .ref a0), (2, .ref b0)]) hx hb dL_law_442 hl (k := 3) rfl (nI_add i 5) (by decide) rfl (fun ls hl => ?_)
      refine lv_goto (tgt := 18) hx hb dL_law_445 (by decide) ?_
      exact ih (i + 5, (LP, gb, md, ct, tb, nm, tk, oc, en, fs, la, g, st, ln, bf, af), (us, nu, bm, tn, gm, za, ss, bk), z) _ _ _ (by dsimp only; omega) ⟨hi5, ⟨cs, fr, hI, hRc⟩, hRm, hbal, hPc, hPm, hD, hS, lv_sub hl [1, 2, 3, 0] rfl⟩
    · refine lv_tableIn (off := 361) (tgt := 393) hx hb dL_law_32 (by decide) (by decide) rfl (by decide) ?_
      refine lv_aload_n hx hb dL_law_393 rfl (lv_at hl 1 rfl) ?_
      refine lv_aload_n hx hb dL_law_394 rfl (lv_at hl 0 rfl) ?_
      refine lv_iload_n hx hb dL_law_395 rfl (lv_at hl 3 rfl) ?_
      refine lv_iconst (v := nI 1) hx hb dL_law_396 (by decide) ?_
      refine sf_iadd hx hb dL_law_397 ?_
      refine lw_sld hx hb hX hbl hbA hS (by omega) (by omega) dL_law_398 ?_
      refine vp_callSi (va_Run.run (sf_runV (b := a0) (As := [.int (xs (i + 1))]) (rest := []) ⟨hx, hb, hml, hown, hts⟩ sf_hasL (c_sum l dC dI a0 a1 a2 a3 cB cT LP gb md ct tb nm tk oc en fs la g st ln bf af _ z cs fr hI hRc (xs (i + 1))) k_L_54 ⟨sf_blind, va_recv hKc hPc (ci := 2) (q0 := 0) rfl rfl, sf_preU hPc hKc (sf_Dl hD) hN⟩ rfl hl.1 (Nat.le_of_ble_eq_true rfl) ⟨(Nat.le_of_ble_eq_true rfl), (Nat.le_of_ble_eq_true rfl)⟩ ⟨rfl, rfl⟩ ⟨(by show 10 + i + 0 ≤ 600000; omega), (by show 1000000 + 6 * i + 0 ≤ 7302250; omega)⟩ dL_law_399)) (fun r1 e1 => ?_)
      refine lv_aload_n hx hb dL_law_402 rfl (lv_at hl 2 rfl) ?_
      refine lv_aload_n hx hb dL_law_403 rfl (lv_at hl 0 rfl) ?_
      refine lv_iload_n hx hb dL_law_404 rfl (lv_at hl 3 rfl) ?_
      refine lv_iconst (v := nI 1) hx hb dL_law_405 (by decide) ?_
      refine sf_iadd hx hb dL_law_406 ?_
      refine lw_sld hx hb hX hbl hbA hS (by omega) (by omega) dL_law_407 ?_
      refine vp_callSi (va_Run.run (sf_runV (b := b0) (As := [.int (xs (i + 1))]) (rest := [.int r1]) ⟨hx, hb, hml, hown, hts⟩ sf_hasL (m_sum l dC dI b0 b1 b2 b3 b4 d1 d2 d3 d4 us nu bm tn gm za ss bk _ z hRm (xs (i + 1))) k_L_57 ⟨sf_blind, va_recv hKm hPm (ci := 3) (q0 := 0) rfl rfl, sf_preU hPm hKm (sf_Dr hD) hN⟩ rfl hl.1 (Nat.le_of_ble_eq_true rfl) ⟨(Nat.le_of_ble_eq_true rfl), (Nat.le_of_ble_eq_true rfl)⟩ ⟨rfl, rfl⟩ ⟨(by show 10 + i + 0 ≤ 600000; omega), (by show 1000000 + 6 * i + 0 ≤ 7302250; omega)⟩ dL_law_408)) (fun r2 e2 => ?_)
      refine lv_icmp_eq (tgt := 442) hx hb dL_law_411 (by decide) (fun _ => ?_) (fun c9 => absurd (by rw [e1, e2]) c9)
      refine W.widen (k := 10 + (i + 5)) (n := 1000000 + 6 * (i + 5)) (by omega) (by omega) ?_
      refine lv_iinc (v := nI (i + 5)) (lv' := [(3, .int (nI (i + 5))), (0, .ref b), (1, .ref a0), (2, .ref b0)]) hx hb dL_law_442 hl (k := 3) rfl (nI_add i 5) (by decide) rfl (fun ls hl => ?_)
      refine lv_goto (tgt := 18) hx hb dL_law_445 (by decide) ?_
      exact ih (i + 5, (LP, gb, md, ct, tb, nm, tk, oc, en, fs, la, g, st, ln, bf, af), (us, nu, bm, tn, gm, za, ss, bk), z) _ _ _ (by dsimp only; omega) ⟨hi5, ⟨cs, fr, hI, hRc⟩, hRm, hbal, hPc, hPm, hD, hS, lv_sub hl [1, 2, 3, 0] rfl⟩
    · refine lv_tableIn (off := 384) (tgt := 416) hx hb dL_law_32 (by decide) (by decide) rfl (by decide) ?_
      refine lv_aload_n hx hb dL_law_416 rfl (lv_at hl 1 rfl) ?_
      refine vp_callSi (va_Run.run (sf_runV (b := a0) (As := []) (rest := []) ⟨hx, hb, hml, hown, hts⟩ sf_hasL (c_rows l dC dI a0 a1 a2 a3 cB cT LP gb md ct tb nm tk oc en fs la g st ln bf af _ z cs fr hI hRc ) k_L_58 ⟨sf_blind, va_recv hKc hPc (ci := 2) (q0 := 0) rfl rfl, sf_preU hPc hKc (sf_Dl hD) hN⟩ rfl hl.1 (Nat.le_of_ble_eq_true rfl) ⟨(Nat.le_of_ble_eq_true rfl), (Nat.le_of_ble_eq_true rfl)⟩ ⟨rfl, rfl⟩ ⟨(by show 10 + i + 0 ≤ 600000; omega), (by show 1000000 + 6 * i + 0 ≤ 7302250; omega)⟩ dL_law_417)) (fun r1 e1 => ?_)
      refine lv_aload_n hx hb dL_law_420 rfl (lv_at hl 2 rfl) ?_
      refine vp_callSi (va_Run.run (sf_runV (b := b0) (As := []) (rest := [.int r1]) ⟨hx, hb, hml, hown, hts⟩ sf_hasL (m_rows l dC dI b0 b1 b2 b3 b4 d1 d2 d3 d4 us nu bm tn gm za ss bk _ z hRm  hbal) k_L_62 ⟨sf_blind, va_recv hKm hPm (ci := 3) (q0 := 0) rfl rfl, sf_preU hPm hKm (sf_Dr hD) hN⟩ rfl hl.1 (Nat.le_of_ble_eq_true rfl) ⟨(Nat.le_of_ble_eq_true rfl), (Nat.le_of_ble_eq_true rfl)⟩ ⟨rfl, rfl⟩ ⟨(by show 10 + i + 0 ≤ 600000; omega), (by show 1000000 + 6 * i + 0 ≤ 7302250; omega)⟩ dL_law_421)) (fun r2 e2 => ?_)
      refine lv_icmp_eq (tgt := 442) hx hb dL_law_424 (by decide) (fun _ => ?_) (fun c9 => absurd (by rw [e1, e2]) c9)
      refine W.widen (k := 10 + (i + 5)) (n := 1000000 + 6 * (i + 5)) (by omega) (by omega) ?_
      refine lv_iinc (v := nI (i + 5)) (lv' := [(3, .int (nI (i + 5))), (0, .ref b), (1, .ref a0), (2, .ref b0)]) hx hb dL_law_442 hl (k := 3) rfl (nI_add i 5) (by decide) rfl (fun ls hl => ?_)
      refine lv_goto (tgt := 18) hx hb dL_law_445 (by decide) ?_
      exact ih (i + 5, (LP, gb, md, ct, tb, nm, tk, oc, en, fs, la, g, st, ln, bf, af), (us, nu, bm, tn, gm, za, ss, bk), z) _ _ _ (by dsimp only; omega) ⟨hi5, ⟨cs, fr, hI, hRc⟩, hRm, hbal, hPc, hPm, hD, hS, lv_sub hl [1, 2, 3, 0] rfl⟩
    · refine lv_tableIn (off := 397) (tgt := 429) hx hb dL_law_32 (by decide) (by decide) rfl (by decide) ?_
      refine lv_aload_n hx hb dL_law_429 rfl (lv_at hl 1 rfl) ?_
      refine vp_callSi (va_Run.run (sf_runV (b := a0) (As := []) (rest := []) ⟨hx, hb, hml, hown, hts⟩ sf_hasL (c_places l dC dI a0 a1 a2 a3 cB cT LP gb md ct tb nm tk oc en fs la g st ln bf af _ z cs fr hI hRc ) k_L_63 ⟨sf_blind, va_recv hKc hPc (ci := 2) (q0 := 0) rfl rfl, sf_preU hPc hKc (sf_Dl hD) hN⟩ rfl hl.1 (Nat.le_of_ble_eq_true rfl) ⟨(Nat.le_of_ble_eq_true rfl), (Nat.le_of_ble_eq_true rfl)⟩ ⟨rfl, rfl⟩ ⟨(by show 10 + i + 0 ≤ 600000; omega), (by show 1000000 + 6 * i + 0 ≤ 7302250; omega)⟩ dL_law_430)) (fun r1 e1 => ?_)
      refine lv_aload_n hx hb dL_law_433 rfl (lv_at hl 2 rfl) ?_
      refine vp_callSi (va_Run.run (sf_runV (b := b0) (As := []) (rest := [.int r1]) ⟨hx, hb, hml, hown, hts⟩ sf_hasL (m_places l dC dI b0 b1 b2 b3 b4 d1 d2 d3 d4 us nu bm tn gm za ss bk _ z hRm ) k_L_66 ⟨sf_blind, va_recv hKm hPm (ci := 3) (q0 := 0) rfl rfl, sf_preU hPm hKm (sf_Dr hD) hN⟩ rfl hl.1 (Nat.le_of_ble_eq_true rfl) ⟨(Nat.le_of_ble_eq_true rfl), (Nat.le_of_ble_eq_true rfl)⟩ ⟨rfl, rfl⟩ ⟨(by show 10 + i + 0 ≤ 600000; omega), (by show 1000000 + 6 * i + 0 ≤ 7302250; omega)⟩ dL_law_434)) (fun r2 e2 => ?_)
      refine lv_icmp_eq (tgt := 442) hx hb dL_law_437 (by decide) (fun _ => ?_) (fun c9 => absurd (by rw [e1, e2]) c9)
      refine W.widen (k := 10 + (i + 5)) (n := 1000000 + 6 * (i + 5)) (by omega) (by omega) ?_
      refine lv_iinc (v := nI (i + 5)) (lv' := [(3, .int (nI (i + 5))), (0, .ref b), (1, .ref a0), (2, .ref b0)]) hx hb dL_law_442 hl (k := 3) rfl (nI_add i 5) (by decide) rfl (fun ls hl => ?_)
      refine lv_goto (tgt := 18) hx hb dL_law_445 (by decide) ?_
      exact ih (i + 5, (LP, gb, md, ct, tb, nm, tk, oc, en, fs, la, g, st, ln, bf, af), (us, nu, bm, tn, gm, za, ss, bk), z) _ _ _ (by dsimp only; omega) ⟨hi5, ⟨cs, fr, hI, hRc⟩, hRm, hbal, hPc, hPm, hD, hS, lv_sub hl [1, 2, 3, 0] rfl⟩
    · refine lv_tableOut (tgt := 442) hx hb dL_law_32 (by decide) (by decide) ?_
      refine W.widen (k := 10 + (i + 5)) (n := 1000000 + 6 * (i + 5)) (by omega) (by omega) ?_
      refine lv_iinc (v := nI (i + 5)) (lv' := [(3, .int (nI (i + 5))), (0, .ref b), (1, .ref a0), (2, .ref b0)]) hx hb dL_law_442 hl (k := 3) rfl (nI_add i 5) (by decide) rfl (fun ls hl => ?_)
      refine lv_goto (tgt := 18) hx hb dL_law_445 (by decide) ?_
      exact ih (i + 5, (LP, gb, md, ct, tb, nm, tk, oc, en, fs, la, g, st, ln, bf, af), (us, nu, bm, tn, gm, za, ss, bk), z) _ _ _ (by dsimp only; omega) ⟨hi5, ⟨cs, fr, hI, hRc⟩, hRm, hbal, hPc, hPm, hD, hS, lv_sub hl [1, 2, 3, 0] rfl⟩
    · refine lv_tableOut (tgt := 442) hx hb dL_law_32 (by decide) (by decide) ?_
      refine W.widen (k := 10 + (i + 5)) (n := 1000000 + 6 * (i + 5)) (by omega) (by omega) ?_
      refine lv_iinc (v := nI (i + 5)) (lv' := [(3, .int (nI (i + 5))), (0, .ref b), (1, .ref a0), (2, .ref b0)]) hx hb dL_law_442 hl (k := 3) rfl (nI_add i 5) (by decide) rfl (fun ls hl => ?_)
      refine lv_goto (tgt := 18) hx hb dL_law_445 (by decide) ?_
      exact ih (i + 5, (LP, gb, md, ct, tb, nm, tk, oc, en, fs, la, g, st, ln, bf, af), (us, nu, bm, tn, gm, za, ss, bk), z) _ _ _ (by dsimp only; omega) ⟨hi5, ⟨cs, fr, hI, hRc⟩, hRm, hbal, hPc, hPm, hD, hS, lv_sub hl [1, 2, 3, 0] rfl⟩
    · refine lv_tableOut (tgt := 442) hx hb dL_law_32 (by decide) (by decide) ?_
      refine W.widen (k := 10 + (i + 5)) (n := 1000000 + 6 * (i + 5)) (by omega) (by omega) ?_
      refine lv_iinc (v := nI (i + 5)) (lv' := [(3, .int (nI (i + 5))), (0, .ref b), (1, .ref a0), (2, .ref b0)]) hx hb dL_law_442 hl (k := 3) rfl (nI_add i 5) (by decide) rfl (fun ls hl => ?_)
      refine lv_goto (tgt := 18) hx hb dL_law_445 (by decide) ?_
      exact ih (i + 5, (LP, gb, md, ct, tb, nm, tk, oc, en, fs, la, g, st, ln, bf, af), (us, nu, bm, tn, gm, za, ss, bk), z) _ _ _ (by dsimp only; omega) ⟨hi5, ⟨cs, fr, hI, hRc⟩, hRm, hbal, hPc, hPm, hD, hS, lv_sub hl [1, 2, 3, 0] rfl⟩
    · refine lv_tableOut (tgt := 442) hx hb dL_law_32 (by decide) (by decide) ?_
      refine W.widen (k := 10 + (i + 5)) (n := 1000000 + 6 * (i + 5)) (by omega) (by omega) ?_
      refine lv_iinc (v := nI (i + 5)) (lv' := [(3, .int (nI (i + 5))), (0, .ref b), (1, .ref a0), (2, .ref b0)]) hx hb dL_law_442 hl (k := 3) rfl (nI_add i 5) (by decide) rfl (fun ls hl => ?_)
      refine lv_goto (tgt := 18) hx hb dL_law_445 (by decide) ?_
      exact ih (i + 5, (LP, gb, md, ct, tb, nm, tk, oc, en, fs, la, g, st, ln, bf, af), (us, nu, bm, tn, gm, za, ss, bk), z) _ _ _ (by dsimp only; omega) ⟨hi5, ⟨cs, fr, hI, hRc⟩, hRm, hbal, hPc, hPm, hD, hS, lv_sub hl [1, 2, 3, 0] rfl⟩
set_option maxHeartbeats 4000000 in
set_option maxRecDepth 100000 in
/-- from the entry, for every script of at most 2560 ints, the law comes to its end with true -/
theorem whole_start {p : Program} {e : Env} {s : State} {m : MethodId} {below : List Frame} {meth : Method} {c : Code} (l : Launch) {b L : Nat} {xs : Nat → Int32} (hL : L ≤ 2560) (C0 : lw_At p s m meth c b L xs) : W p l e room_1 s m #[Value.ref b] below meth c s.heap [] 0 0 (lw_Z below #[Value.ref b] s) (entryFrame m ([Value.ref b] : List Value).toArray 4) := by
  obtain ⟨hx, hb, hr, hml, hown0, hts, hX, hbl, hlocks, hgv⟩ := id C0
  have hown : s.vm.findClass RL = some m.cls := hown0
  have hA : ∀ q : Nat, s.heap.size ≤ q → (fun q : Nat => s.heap.size ≤ q) q := fun _ h => h
  have hN : sf_N s := va_Nw.of rfl (hts _ mn_X0_30)
  have hO : va_AO "ByteShelf$Row" s := va_AO.of (hts _ ao_Row)
  obtain ⟨c0, iS0, hKn0⟩ := u_known (C := RX0) (T := TX0) (N := 5) (n := 5) hts (fun w h => (List.mem_filter.mp (sf_iX0 w h)).1) (hts _ it_X0)
  obtain ⟨c1, iS1, hKn1⟩ := u_known (C := RX1) (T := TX1) (N := 6) (n := 6) hts (fun w h => (List.mem_filter.mp (sf_iX1 w h)).1) (hts _ it_X1)
  obtain ⟨c2, iS2, hKn2⟩ := u_known (C := RX2) (T := TX2) (N := 5) (n := 5) hts (fun w h => (List.mem_filter.mp (sf_iX2 w h)).1) (hts _ it_X2)
  obtain ⟨c3, iS3, hKn3⟩ := u_known (C := RX3) (T := TX3) (N := 8) (n := 8) hts (fun w h => (List.mem_filter.mp (sf_iX3 w h)).1) (hts _ it_X3)
  obtain ⟨dC, dI, hKc⟩ : ∃ (dC : Nat → ClassId) (dI : Nat → Nat → Nat), ∀ (k : Nat) (q : vw_C), vwCl[k]? = some q → u_Kn s q.1 q.2.1 q.2.2 (dC k) (dI k) := by
    refine ⟨fun k => if k = 0 then c0 else if k = 1 then c1 else if k = 2 then c2 else c3, fun k => if k = 0 then iS0 else if k = 1 then iS1 else if k = 2 then iS2 else iS3, ?_⟩
    intro k q hq
    match k, hq with
    | 0, hq => cases hq; exact hKn0
    | 1, hq => cases hq; exact hKn1
    | 2, hq => cases hq; exact hKn2
    | 3, hq => cases hq; exact hKn3
    | k + 4, hq => simp [vwCl] at hq
  have hS : va_S (fun q : Nat => s.heap.size ≤ q) s.heap s.heap [] := va_S.rf
  have hK : va_K (dC, dI) vwCl [] s := ⟨hKc, fun k q h => by simp at h⟩
  have hP : va_P (dC, dI) vwCl [] s.heap := fun k q h => by simp at h
  have hD : va_D (fun q : Nat => s.heap.size ≤ q) [] := ⟨fun i j p q h => by simp at h, fun k q h => by simp at h⟩
  have hl := lv_entry ([.ref b]) (n := 4) (Nat.le_of_ble_eq_true rfl)
  rw [lg_entry_eq]
  generalize (lg_sl ([.ref b]) ++ List.replicate (4 - (lg_sl ([.ref b])).length) Slot.unset).toArray = ls at hl ⊢
  have hl : lv_has ls 4 [(0, .ref b)] := hl
  refine va_new (ci := 2) (fs := [.null, .null, .null, .int 0, .int 0]) (C := RX2) (T := TX2) (N := 5) hx hb hts (fun w h => (List.mem_filter.mp (sf_iX2 w h)).1) tyX2 tyX2_ok hown (hts _ cl_L_7) (hts _ it_X2) (hts _ in_X2) hK hP hD hS hA rfl (fun j hj => by rcases (show j = 0 ∨ j = 1 ∨ j = 2 ∨ j = 3 ∨ j = 4 by omega) with rfl | rfl | rfl | rfl | rfl <;> rfl) (Nat.le_of_ble_eq_true rfl) (Nat.le_of_ble_eq_true rfl) dL_law_0 (fun a0 H hP hD hS => ?_)
  have hP : va_P (dC, dI) vwCl [(a0, .inr (2, [.null, .null, .null, .int 0, .int 0]))] H := hP
  have hD : va_D (fun q : Nat => s.heap.size ≤ q) [(a0, .inr (2, [.null, .null, .null, .int 0, .int 0]))] := hD
  refine W.widen (k := 1) (n := 5) (Nat.le_of_ble_eq_true rfl) (Nat.le_of_ble_eq_true rfl) ?_
  refine lv_dup hx hb dL_law_3 rfl ?_
  have hF := sf_in hD hS hA
  refine va_callv (sf_runI (b := a0) (As := []) (rest := [.ref a0]) ⟨hx, hb, hml, hown, hts⟩ sf_hasL (c_ByteShelf_init l dC dI a0 _) k_L_9 ⟨sf_blindO, sf_preO hP hK hD hN hO⟩ rfl hl.1 (Nat.le_of_ble_eq_true rfl) ⟨(Nat.le_of_ble_eq_true rfl), (Nat.le_of_ble_eq_true rfl)⟩ ⟨rfl, rfl⟩ ⟨(Nat.le_of_ble_eq_true rfl), (Nat.le_of_ble_eq_true rfl)⟩ dL_law_4) hS (fun q _ h => hF q h) hF (fun u t H locs ht hvm hw hB hz1 hk1 hS => ?_)
  obtain ⟨a1, a2, a3, cB, cT⟩ := u
  obtain ⟨hPc, hK1, hD1⟩ := hB
  rw [ht] at hPc
  have hKc2 := va_K.moved hvm.symm hK1
  have hD := hD1.weaken (fun k q _ h => hF q.1 h)
  dsimp only at hPc hKc2 hD
  refine W.widen (k := 4) (n := 420010) (Nat.le_of_ble_eq_true rfl) (Nat.le_of_ble_eq_true rfl) ?_
  refine lv_astore_n (lv' := [(1, .ref a0), (0, .ref b)]) hx hb dL_law_7 rfl hl (by decide) rfl (fun ls hl => ?_)
  refine va_new (ci := 3) (fs := [.null, .int (nI 0), .null, .null, .int (nI 0), .null, .int (nI 0), .int (nI 0)]) (C := RX3) (T := TX3) (N := 8) hx hb hts (fun w h => (List.mem_filter.mp (sf_iX3 w h)).1) tyX3 tyX3_ok hown (hts _ cl_L_10) (hts _ it_X3) (hts _ in_X3) hK hPc hD hS hA rfl (fun j hj => by rcases (show j = 0 ∨ j = 1 ∨ j = 2 ∨ j = 3 ∨ j = 4 ∨ j = 5 ∨ j = 6 ∨ j = 7 by omega) with rfl | rfl | rfl | rfl | rfl | rfl | rfl | rfl <;> rfl) (Nat.le_of_ble_eq_true rfl) (Nat.le_of_ble_eq_true rfl) dL_law_8 (fun b0 H hP hD hS => ?_)
  have hPc := sf_Pl hP
  have hPm := sf_Pr hP
  have hD := sf_Ds hD
  refine W.widen (k := 5) (n := 420018) (Nat.le_of_ble_eq_true rfl) (Nat.le_of_ble_eq_true rfl) ?_
  refine lv_dup hx hb dL_law_11 rfl ?_
  have hF := sf_in (sf_Dl hD) hS hA
  refine va_callv (sf_runI (b := b0) (As := []) (rest := [.ref b0]) ⟨hx, hb, hml, hown, hts⟩ sf_hasL (m_init l dC dI b0 _) k_L_12 ⟨sf_blind, sf_preU hPm hK (sf_Dl hD) hN⟩ rfl hl.1 (Nat.le_of_ble_eq_true rfl) ⟨(Nat.le_of_ble_eq_true rfl), (Nat.le_of_ble_eq_true rfl)⟩ ⟨rfl, rfl⟩ ⟨(Nat.le_of_ble_eq_true rfl), (Nat.le_of_ble_eq_true rfl)⟩ dL_law_12) hS (fun q _ h => hF q h) hF (fun u t H locs ht hvm hw hB hz1 hk1 hS => ?_)
  obtain ⟨b1, b2, b3, b4, d1, d2, d3, d4⟩ := u
  obtain ⟨hPm, hK2, hD2⟩ := hB
  rw [ht] at hPm
  have hKm2 := va_K.moved hvm.symm hK2
  obtain ⟨hPc, hD⟩ := sf_frame hPc hD hk1 hF hD2
  have hD := sf_Ds hD
  dsimp only at hPm hKm2 hD
  refine W.widen (k := 10) (n := 1000000) (Nat.le_of_ble_eq_true rfl) (Nat.le_of_ble_eq_true rfl) ?_
  refine lv_astore_n (lv' := [(2, .ref b0), (1, .ref a0), (0, .ref b)]) hx hb dL_law_15 rfl hl (by decide) rfl (fun ls hl => ?_)
  refine lv_iconst (v := nI 0) hx hb dL_law_16 (by decide) ?_
  refine lv_istore_n (lv' := [(3, .int (nI 0)), (2, .ref b0), (1, .ref a0), (0, .ref b)]) hx hb dL_law_17 rfl hl (by decide) rfl (fun ls hl => ?_)
  exact law_loop hL C0 hKc2 hKm2 _ _ _ _ _ sf_OK_0 mw_R_0 hPc hPm hD hS (lv_sub hl [3, 2, 1, 0] rfl)
