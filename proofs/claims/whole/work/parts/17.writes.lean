/-! the shelf's writes: put, fill, resize, copy, give -/
theorem zs_put_1 {z : sf_Z} {row i b : Int32} (h : zrow z row = none) : zs_put z row i b = (0, z) := by unfold zs_put; rw [h]
theorem zs_put_2 {z : sf_Z} {row i b : Int32} {k : Nat} (h : zrow z row = some k) (h2 : zi i (zLn z k) = none) : zs_put z row i b = (0, z) := by unfold zs_put; rw [h]; dsimp only; rw [h2]
theorem zs_put_3 {z : sf_Z} {row i b : Int32} {k j : Nat} (h : zrow z row = some k) (h2 : zi i (zLn z k) = some j) : zs_put z row i b = (1, zput z k (upd (zBy z k) j b.toInt8.toInt32)) := by unfold zs_put; rw [h]; dsimp only; rw [h2]
theorem sf_put_f {f g : Nat → Int32} {b n j : Nat} {v : Int32} (h : ∀ i, i < n → f i = g (b + i)) : ∀ i, i < n → upd f j v i = upd g (b + j) v (b + i) := by
  intro i hi
  by_cases q : i = j
  · rw [q, pk_us, pk_us]
  · rw [pk_un q, pk_un (by omega)]
    exact h i hi
theorem zi_inv {x : Int32} {n j : Nat} (hn : n ≤ 2 ^ 31) (h : zi x n = some j) : x = nI j ∧ j < n := by
  unfold zi at h
  split at h
  · cases h
    refine ⟨?_, by omega⟩
    apply Int32.toInt_inj.mp
    rw [nI_toInt (by omega)]
    omega
  · cases h
theorem zs_fill_1 {z : sf_Z} {row i n d : Int32} (h : zrow z row = none) : zs_fill z row i n d = (0, z) := by unfold zs_fill; rw [h]
theorem zs_fill_2 {z : sf_Z} {row i n d : Int32} {k : Nat} (h : zrow z row = some k) (hk : zLn z k ≤ 16384) (h2 : ∀ a m : Nat, a + m ≤ zLn z k → i = nI a → n ≠ nI m) : zs_fill z row i n d = (0, z) := by
  unfold zs_fill
  rw [h]
  dsimp only
  split
  · rename_i a m e1 e2
    obtain ⟨q1, q2⟩ := zi_inv (by omega) e1
    obtain ⟨q3, q4⟩ := zi_inv (by omega) e2
    rw [if_neg (fun q => h2 a m q q1 q3)]
  · rfl
theorem zs_fill_3 {z : sf_Z} {row d : Int32} {k a m : Nat} (h : zrow z row = some k) (hk : zLn z k ≤ 16384) (h2 : a + m ≤ zLn z k) : zs_fill z row (nI a) (nI m) d = (1, zput z k (fun j => if a ≤ j ∧ j < a + m then zfb d (j - a) else zBy z k j)) := by
  unfold zs_fill
  rw [h]
  dsimp only
  rw [zi_some (by omega) (by omega), zi_some (by omega) (by omega)]
  dsimp only
  rw [if_pos h2]
theorem sf_fill_go {g g2 h : Nat → Int32} {lo c : Nat} (q : ∀ p, g2 p = if lo ≤ p ∧ p < lo + c then h (p - lo) else g p) : ∀ p, upd g2 (lo + c) (h c) p = if lo ≤ p ∧ p < lo + (c + 1) then h (p - lo) else g p := by
  intro p
  by_cases e : p = lo + c
  · subst e
    rw [pk_us, if_pos (by omega), Nat.add_sub_cancel_left]
  · rw [pk_un e, q p]
    by_cases q2 : lo ≤ p ∧ p < lo + c
    · rw [if_pos q2, if_pos (by omega)]
    · rw [if_neg q2, if_neg (by omega)]
theorem sf_OK_fill {LP : List Nat} {gb : Option Nat} {md ct : Nat} {tb : Nat → Option Nat} {nm tk : Nat → Nat} {oc en : Nat} {fs la : Option Nat} {g : Nat → Int32} {st ln : Nat → Nat} {bf af : Nat → Option Nat} {cs fr : List Nat} {z : sf_Z} {g2 : Nat → Int32} {k a i0 n0 : Nat} {d : Int32} (hI : sf_CI LP gb md ct tb nm tk oc en fs la g st ln bf af cs fr) (hR : sf_CR LP nm tk ln st g cs fr ct oc z) (hk : LP[k]? = some a) (hac : a ∈ cs) (hF : sb_Fit g2) (hn : i0 + n0 ≤ ln a) (f5 : ∀ i, i < ln a → zBy z k i = g (st a + i)) (q : ∀ p, g2 p = if st a + i0 ≤ p ∧ p < st a + i0 + n0 then zfb d (p - (st a + i0)) else g p) :
    sf_OK LP gb md ct tb nm tk oc en fs la g2 st ln bf af (zput z k (fun j => if i0 ≤ j ∧ j < i0 + n0 then zfb d (j - i0) else zBy z k j)) := by
  refine sf_OK_bytes hI hR hk hF (fun x hx hne i hi => ?_) (fun i hi => ?_)
  · rw [q, if_neg]
    intro e
    exact sf_apart hI hac hx hne hi (j := st x + i - st a) (by omega) (by omega)
  · rw [q]
    by_cases e : i0 ≤ i ∧ i < i0 + n0
    · rw [if_pos e, if_pos (by omega), show st a + i - (st a + i0) = i - i0 by omega]
    · rw [if_neg e, if_neg (by omega)]
      exact f5 i hi
theorem zs_res_1 {z : sf_Z} {row n : Int32} (h : zrow z row = none) : zs_resize z row n = (-1, z) := by unfold zs_resize; rw [h]
theorem zs_res_2 {z : sf_Z} {row n : Int32} {k : Nat} (h : zrow z row = some k) (h2 : zi n 16385 = none) : zs_resize z row n = (-1, z) := by unfold zs_resize; rw [h]; dsimp only; rw [h2]
theorem zs_res_3 {z : sf_Z} {row : Int32} {k m : Nat} (h : zrow z row = some k) (hm : m ≤ 16384) (h2 : sf_P (zLn z k) < sf_P m ∧ 400000 < zOc z + sf_P m) : zs_resize z row (nI m) = (-2, z) := by unfold zs_resize; rw [h]; dsimp only; rw [zi_some (by omega) (by omega)]; dsimp only; rw [if_pos h2]
theorem zs_res_4 {z : sf_Z} {row : Int32} {k m : Nat} (h : zrow z row = some k) (hm : m ≤ 16384) (h2 : sf_P m ≤ sf_P (zLn z k) ∨ zOc z + sf_P m ≤ 400000) : zs_resize z row (nI m) = (nI m, zset z k m (fun i => if i < zLn z k then zBy z k i else 0)) := by unfold zs_resize; rw [h]; dsimp only; rw [zi_some (by omega) (by omega)]; dsimp only; rw [if_neg (by omega)]
theorem zs_cpy_1 {z : sf_Z} {row o : Int32} (h : zrow z row = none) : zs_copy z row o = (-1, z) := by unfold zs_copy; rw [h]
theorem zs_cpy_2 {z : sf_Z} {row o : Int32} (h : zrow z o = none) : zs_copy z row o = (-1, z) := by
  unfold zs_copy
  rw [h]
  cases zrow z row <;> rfl
theorem zs_cpy_3 {z : sf_Z} {row o : Int32} {k k2 : Nat} (h : zrow z row = some k) (h2 : zrow z o = some k2) (h3 : sf_P (zLn z k) < sf_P (zLn z k2) ∧ 400000 < zOc z + sf_P (zLn z k2)) : zs_copy z row o = (-2, z) := by unfold zs_copy; rw [h, h2]; dsimp only; rw [if_pos h3]
theorem zs_cpy_4 {z : sf_Z} {row o : Int32} {k k2 : Nat} (h : zrow z row = some k) (h2 : zrow z o = some k2) (h3 : sf_P (zLn z k2) ≤ sf_P (zLn z k) ∨ zOc z + sf_P (zLn z k2) ≤ 400000) : zs_copy z row o = (nI (zLn z k2), zset z k (zLn z k2) (zBy z k2)) := by unfold zs_copy; rw [h, h2]; dsimp only; rw [if_neg (by omega)]
theorem zput_zset {z : sf_Z} {k n : Nat} {f1 f : Nat → Int32} : zput (zset z k n f1) k f = zset z k n f := by
  show (_, _, _, _, va_up (va_up (zBy z) k f1) k f, _, _) = (_, _, _, _, va_up (zBy z) k f, _, _)
  rw [bx_uu]
  rfl
theorem sf_up_same {ln : Nat → Nat} {a b : Nat} : va_up ln a (ln b) b = ln b := by
  by_cases q : b = a
  · rw [q, va_up_self]
  · rw [va_up_ne _ _ q]
theorem sf_OK_copy {LP : List Nat} {gb : Option Nat} {md ct : Nat} {tb : Nat → Option Nat} {nm tk : Nat → Nat} {oc en : Nat} {fs la : Option Nat} {g : Nat → Int32} {st ln : Nat → Nat} {bf af : Nat → Option Nat} {cs fr : List Nat} {z : sf_Z} {k k2 a b : Nat} {cs' : List Nat} {oc' en' : Nat} {fs' la' : Option Nat} {g' : Nat → Int32} {st' : Nat → Nat} {bf' af' : Nat → Option Nat} (hI : sf_CI LP gb md ct tb nm tk oc en fs la g st ln bf af cs fr) (hR : sf_CR LP nm tk ln st g cs fr ct oc z) (hk : LP[k]? = some a) (hac : a ∈ cs) (hbc : b ∈ cs) (f5 : ∀ i, i < ln b → zBy z k2 i = g (st b + i))
    (e1 : oc' = oc + sf_P (ln b) - sf_P (ln a)) (e2 : ∀ x, x ∈ cs' ↔ x ∈ cs) (e3 : cs'.length = cs.length) (e4 : sf_MI LP cs' oc' en' fs' la' g' st' (va_up ln a (ln b)) bf' af') (e5 : ∀ x, x ∈ cs → x ≠ a → ∀ i, i < ln x → g' (st' x + i) = g (st x + i)) (e6 : ∀ i, i < ln b → g' (st' a + i) = if i < ln a then g (st a + i) else 0) (e7 : ∀ x, x ∉ cs → af' x = af x) :
    sf_OK LP gb md ct tb nm tk oc' en' fs' la' (va_cpy g' g' (st' b) (st' a) (ln b)) st' (va_up ln a (ln b)) bf' af' (zset z k (ln b) (zBy z k2)) := by
  obtain ⟨hI2, hR2⟩ := sf_OK_len (f := fun i => g' (st' a + i)) hI hR hk hac e1 e2 e3 e4 e5 (fun _ _ => rfl) e7
  rw [← zput_zset (f1 := fun i => g' (st' a + i))]
  have hF := e4.2.2.2.2.2.2.2.2.2
  refine sf_OK_bytes hI2 hR2 hk (sb_fitC hF hF) (fun x hx hne i hi => ?_) (fun i hi => ?_)
  · by_cases q : st' a ≤ st' x + i ∧ st' x + i < st' a + ln b
    · exact absurd (show st' x + i = st' a + (st' x + i - st' a) by omega) (sf_apart hI2 ((e2 a).mpr hac) hx hne hi (by rw [va_up_self]; omega))
    · rw [pk_cpy_out (by omega)]
  · rw [va_up_self] at hi
    rw [pk_cpy_in (by omega) (by omega), Nat.add_sub_cancel_left, f5 i hi]
    by_cases q : b = a
    · subst q
      rw [e6 i hi, if_pos hi]
    · rw [e5 b hbc q i hi]
theorem zs_give_1 {z : sf_Z} {row : Int32} (h : zrow z row = none) : zs_give z row = (0, z) := by unfold zs_give; rw [h]
theorem zs_give_2 {z : sf_Z} {row : Int32} {k : Nat} (h : zrow z row = some k) : zs_give z row = (1, zMd z, k :: zFr z, va_up (zTk z) k 0, zLn z, zBy z, zCt z - 1, zOc z - sf_P (zLn z k)) := by unfold zs_give; rw [h]
set_option maxHeartbeats 4000000 in
set_option maxRecDepth 100000 in
/-- put(row, i, b) -/
theorem c_put (l : Launch) (dC : Nat → ClassId) (dI : Nat → Nat → Nat) (a0 a1 a2 a3 : Nat) (cB cT : ClassId) (LP : List Nat) (gb : Option Nat) (md ct : Nat) (tb : Nat → Option Nat) (nm tk : Nat → Nat) (oc en : Nat) (fs la : Option Nat) (g : Nat → Int32) (st ln : Nat → Nat) (bf af : Nat → Option Nat) (sz : Nat) (z : sf_Z) (cs fr : List Nat) (hI : sf_CI LP gb md ct tb nm tk oc en fs la g st ln bf af cs fr) (hR : sf_CR LP nm tk ln st g cs fr ct oc z) (row i b : Int32) : Met l yX2_put wsX2_put ({ frames := 1, cells := 0, slots := 0, locals := 30 } : Room) (sf_Pre (dC, dI) vwCl [(cB, .byte), (cT, .object "ByteShelf$Row")] [.ref a0, .int row, .int i, .int b] (sf_w a0 a1 a2 a3 cB cT LP gb md ct tb nm tk oc en fs la g st ln bf af) sz) (va_Qi (fun (r : Int32) (u : sf_Sx) => r = (zs_put z row i b).1 ∧ sf_OKu u (zs_put z row i b).2) (sf_E (dC, dI) vwCl (va_A (sf_w a0 a1 a2 a3 cB cT LP gb md ct tb nm tk oc en fs la g st ln bf af) sz) (fun (u : sf_Sx) => sf_w a0 a1 a2 a3 cB cT u.1 u.2.1 u.2.2.1 u.2.2.2.1 u.2.2.2.2.1 u.2.2.2.2.2.1 u.2.2.2.2.2.2.1 u.2.2.2.2.2.2.2.1 u.2.2.2.2.2.2.2.2.1 u.2.2.2.2.2.2.2.2.2.1 u.2.2.2.2.2.2.2.2.2.2.1 u.2.2.2.2.2.2.2.2.2.2.2.1 u.2.2.2.2.2.2.2.2.2.2.2.2.1 u.2.2.2.2.2.2.2.2.2.2.2.2.2.1 u.2.2.2.2.2.2.2.2.2.2.2.2.2.2.1 u.2.2.2.2.2.2.2.2.2.2.2.2.2.2.2)) (va_A (sf_w a0 a1 a2 a3 cB cT LP gb md ct tb nm tk oc en fs la g st ln bf af) sz)) 0 0 (va_A (sf_w a0 a1 a2 a3 cB cT LP gb md ct tb nm tk oc en fs la g st ln bf af) sz) := by
  refine Met.ofW (cc := cX2_put) (maxL := 5) (ret := (some .boolean)) (by decide) rfl ?_
  intro p e s m args below meth c s₁ B hml hv
  obtain ⟨rfl, hsz, hP, hK, hD0, hN⟩ := hv
  have hx := B.exec
  have hb := B.bytes
  have hr := B.returns
  have hts := atoms_spec (ws := wsX2_put) B.pre
  have hown : s.vm.findClass RX2 = some m.cls := findClass_of_methodNamed B.named
  have hlocks := B.notSynchronized
  subst hsz
  have hD := hD0.self (sz := s.heap.size)
  generalize hAe : va_A (sf_w a0 a1 a2 a3 cB cT LP gb md ct tb nm tk oc en fs la g st ln bf af) s.heap.size = A at hD ⊢
  have hA : ∀ q : Nat, s.heap.size ≤ q → A q := fun q h => by rw [← hAe]; exact Or.inr h
  have hS : va_S A s.heap s.heap [] := va_S.rf
  have hl := lv_entry ([.ref a0, .int row, .int i, .int b]) (n := 5) (Nat.le_of_ble_eq_true rfl)
  rw [lg_entry_eq]
  generalize (lg_sl ([.ref a0, .int row, .int i, .int b]) ++ List.replicate (5 - (lg_sl ([.ref a0, .int row, .int i, .int b])).length) Slot.unset).toArray = ls at hl ⊢
  have hl : lv_has ls 5 [(0, .ref a0), (1, .int row), (2, .int i), (3, .int b)] := hl
  refine lv_aload_n hx hb dX2_put_0 rfl (lv_at hl 0 rfl) ?_
  refine lv_iload_n hx hb dX2_put_1 rfl (lv_at hl 1 rfl) ?_
  refine va_csq (va_Run.run (sf_runV (b := a0) (As := [.int row]) (rest := []) ⟨hx, hb, hml, hown, hts⟩ sf_has (c_find l dC dI a0 a1 a2 a3 cB cT LP gb md ct tb nm tk oc en fs la g st ln bf af _ _ (sf_CI_find hI).1 (sf_CI_find hI).2.1 (sf_CI_find hI).2.2) k_X2_59 ⟨sf_blind, va_recv hK hP (ci := 2) (q0 := 0) rfl rfl, sf_preU hP hK hD hN⟩ rfl hl.1 (Nat.le_of_ble_eq_true rfl) ⟨(Nat.le_of_ble_eq_true rfl), (Nat.le_of_ble_eq_true rfl)⟩ ⟨rfl, rfl⟩ ⟨Nat.zero_le _, Nat.zero_le _⟩ dX2_put_2)) (fun r_2 h_2 => ?_)
  rcases h_2 with h_2 | h_2
  · obtain ⟨k_2, a_2, q1_2, q2_2, q3_2, q4_2, q5_2, q6_2⟩ := h_2
    subst q2_2
    subst q6_2
    obtain ⟨f1_2, f2_2, f3_2, f4_2, f5_2, f6_2, f7_2⟩ := sf_zr_some hI hR q1_2 q3_2 q5_2
    have hl : lv_has ls 5 [(0, .ref a0), (1, .int (nI k_2)), (2, .int i), (3, .int b)] := hl
    refine lv_astore (lv' := [(4, .ref a_2), (0, .ref a0), (1, .int (nI k_2)), (2, .int i), (3, .int b)]) hx hb dX2_put_5 hl (by decide) rfl (fun ls hl => ?_)
    refine lv_aload hx hb dX2_put_7 (lv_at hl 0 rfl) ?_
    refine lv_ifnull hx hb dX2_put_9 ?_
    refine lv_aload hx hb dX2_put_12 (lv_at hl 0 rfl) ?_
    refine lv_iload_n hx hb dX2_put_14 rfl (lv_at hl 3 rfl) ?_
    refine vp_callSi (va_Run.run (sf_runS (As := [.ref a_2, .int i]) (rest := []) ⟨hx, hb, hml, hown, hts⟩ sf_has (c_hasByte l dC dI a0 a1 a2 a3 cB cT LP gb md ct tb nm tk oc en fs la g st ln bf af _ a_2 q4_2 f6_2 i) k_X2_74 ⟨sf_blind, sf_preU hP hK hD hN⟩ rfl hl.1 (Nat.le_of_ble_eq_true rfl) ⟨(Nat.le_of_ble_eq_true rfl), (Nat.le_of_ble_eq_true rfl)⟩ ⟨rfl, rfl⟩ ⟨Nat.zero_le _, Nat.zero_le _⟩ dX2_put_15)) (fun r_15 h_15 => ?_)
    rcases h_15 with ⟨rfl, h_15⟩ | ⟨rfl, h_15⟩
    · obtain ⟨j, hj, rfl⟩ := h_15
      have hl : lv_has ls 5 [(4, .ref a_2), (0, .ref a0), (1, .int (nI k_2)), (2, .int (nI j)), (3, .int b)] := hl
      have hzj : zi (nI j) (zLn z k_2) = some j := by rw [f4_2]; exact zi_some hj (by omega)
      refine sf_if_ne (tgt := 23) hx hb (by decide) dX2_put_18 (by decide) (fun _ => ?_) (fun c_18 => absurd c_18 (by decide))
      refine lv_aload_n hx hb dX2_put_23 rfl (lv_at hl 1 rfl) ?_
      refine va_get (D := (dC, dI)) (ci := 2) (v := .ref a1) (C := RX2) (T := TX2) (N := 5) hx hb hts sf_inX2 hown hK hP 0 rfl rfl 0 (by decide) (hts _ (sf_mem fl_X2_10 rfl)) (fun _ h9 => h9) rfl dX2_put_24 ?_
      refine va_get (D := (dC, dI)) (ci := 0) (v := .ref a2) (C := RX0) (T := TX0) (N := 5) hx hb hts sf_inX0 hown hK hP 1 rfl rfl 0 (by decide) (hts _ (sf_mem fl_X2_77 rfl)) (fun _ h9 => h9) rfl dX2_put_27 ?_
      refine lv_aload hx hb dX2_put_30 (lv_at hl 0 rfl) ?_
      refine sf_rget (D := (dC, dI)) (ci := 1) (v := .int (nI (st a_2))) (C := RX1) (T := TX1) (N := 6) hx hb hts sf_inX1 hown hK hP q4_2 rfl rfl 2 (by decide) (hts _ (sf_mem fl_X2_81 rfl)) (fun _ h9 => h9) rfl dX2_put_32 ?_
      refine lv_iload_n hx hb dX2_put_35 rfl (lv_at hl 3 rfl) ?_
      refine sf_iadd hx hb dX2_put_36 ?_
      refine lv_iload_n hx hb dX2_put_37 rfl (lv_at hl 4 rfl) ?_
      refine lv_i2b hx hb dX2_put_38 rfl ?_
      refine sf_bast hx hb hK hP hD hS 2 0 rfl rfl (pk_vb _) (by omega) (by decide) dX2_put_39 (fun H locs hP hD hS => ?_)
      have hP : va_P (dC, dI) vwCl (sf_w a0 a1 a2 a3 cB cT LP gb md ct tb nm tk oc en fs la (upd g ((st a_2) + j) b.toInt8.toInt32) st ln bf af) H := hP
      have hD : va_D A (sf_w a0 a1 a2 a3 cB cT LP gb md ct tb nm tk oc en fs la (upd g ((st a_2) + j) b.toInt8.toInt32) st ln bf af) := hD
      refine lv_iconst (v := nI 1) hx hb dX2_put_40 (by decide) ?_
      exact W.zret (v := nI 1) hx hb hr (by decide) (fun t ht hW => ⟨⟨_, (LP, gb, md, ct, tb, nm, tk, oc, en, fs, la, (upd g ((st a_2) + j) b.toInt8.toInt32), st, ln, bf, af), rfl, by rw [zs_put_3 f1_2 hzj]; exact ⟨rfl, sf_OK_bytes hI hR f3_2 (sb_fitU hI.1.2.2.2.2.2.2.2.2.2 (pk_fb _)) (fun x hx hne i hi => pk_un (sf_apart hI f2_2 hx hne hi hj)) (sf_put_f f5_2)⟩, by rw [ht]; exact hP, hD⟩, hS.F ht⟩) hS.2.2 dX2_put_41
    · have hzj : zi i (zLn z k_2) = none := by rw [f4_2]; exact zi_none (by omega) h_15
      refine sf_if_ne (tgt := 23) hx hb (by decide) dX2_put_18 (by decide) (fun c_18 => absurd c_18 (by decide)) (fun _ => ?_)
      refine lv_iconst (v := nI 0) hx hb dX2_put_21 (by decide) ?_
      exact W.zret (v := nI 0) hx hb hr (by decide) (fun t ht hW => ⟨⟨_, (LP, gb, md, ct, tb, nm, tk, oc, en, fs, la, g, st, ln, bf, af), rfl, by rw [zs_put_2 f1_2 hzj]; exact ⟨rfl, cs, fr, hI, hR⟩, by rw [ht]; exact hP, hD⟩, hS.F ht⟩) hS.2.2 dX2_put_22
  · obtain ⟨q1_2, q2_2⟩ := h_2
    subst q1_2
    have f1_2 := sf_zr_none hI hR q2_2
    refine lv_astoreN (lv' := [(4, .null), (0, .ref a0), (1, .int row), (2, .int i), (3, .int b)]) hx hb dX2_put_5 hl (by decide) rfl (fun ls hl => ?_)
    refine lv_aloadN hx hb dX2_put_7 (lv_at hl 0 rfl) ?_
    refine lv_ifnullN (tgt := 21) hx hb dX2_put_9 (by decide) ?_
    refine lv_iconst (v := nI 0) hx hb dX2_put_21 (by decide) ?_
    exact W.zret (v := nI 0) hx hb hr (by decide) (fun t ht hW => ⟨⟨_, (LP, gb, md, ct, tb, nm, tk, oc, en, fs, la, g, st, ln, bf, af), rfl, by rw [zs_put_1 f1_2]; exact ⟨rfl, cs, fr, hI, hR⟩, by rw [ht]; exact hP, hD⟩, hS.F ht⟩) hS.2.2 dX2_put_22
set_option maxHeartbeats 4000000 in
set_option maxRecDepth 100000 in
/-- fill(row, i, n, seed) -/
theorem c_fill (l : Launch) (dC : Nat → ClassId) (dI : Nat → Nat → Nat) (a0 a1 a2 a3 : Nat) (cB cT : ClassId) (LP : List Nat) (gb : Option Nat) (md ct : Nat) (tb : Nat → Option Nat) (nm tk : Nat → Nat) (oc en : Nat) (fs la : Option Nat) (g : Nat → Int32) (st ln : Nat → Nat) (bf af : Nat → Option Nat) (sz : Nat) (z : sf_Z) (cs fr : List Nat) (hI : sf_CI LP gb md ct tb nm tk oc en fs la g st ln bf af cs fr) (hR : sf_CR LP nm tk ln st g cs fr ct oc z) (row i n d : Int32) : Met l yX2_fill wsX2_fill ({ frames := 1, cells := 0, slots := 0, locals := 30 } : Room) (sf_Pre (dC, dI) vwCl [(cB, .byte), (cT, .object "ByteShelf$Row")] [.ref a0, .int row, .int i, .int n, .int d] (sf_w a0 a1 a2 a3 cB cT LP gb md ct tb nm tk oc en fs la g st ln bf af) sz) (va_Qi (fun (r : Int32) (u : sf_Sx) => r = (zs_fill z row i n d).1 ∧ sf_OKu u (zs_fill z row i n d).2) (sf_E (dC, dI) vwCl (va_A (sf_w a0 a1 a2 a3 cB cT LP gb md ct tb nm tk oc en fs la g st ln bf af) sz) (fun (u : sf_Sx) => sf_w a0 a1 a2 a3 cB cT u.1 u.2.1 u.2.2.1 u.2.2.2.1 u.2.2.2.2.1 u.2.2.2.2.2.1 u.2.2.2.2.2.2.1 u.2.2.2.2.2.2.2.1 u.2.2.2.2.2.2.2.2.1 u.2.2.2.2.2.2.2.2.2.1 u.2.2.2.2.2.2.2.2.2.2.1 u.2.2.2.2.2.2.2.2.2.2.2.1 u.2.2.2.2.2.2.2.2.2.2.2.2.1 u.2.2.2.2.2.2.2.2.2.2.2.2.2.1 u.2.2.2.2.2.2.2.2.2.2.2.2.2.2.1 u.2.2.2.2.2.2.2.2.2.2.2.2.2.2.2)) (va_A (sf_w a0 a1 a2 a3 cB cT LP gb md ct tb nm tk oc en fs la g st ln bf af) sz)) 0 0 (va_A (sf_w a0 a1 a2 a3 cB cT LP gb md ct tb nm tk oc en fs la g st ln bf af) sz) := by
  refine Met.ofW (cc := cX2_fill) (maxL := 9) (ret := (some .boolean)) (by decide) rfl ?_
  intro p e s m args below meth c s₁ B hml hv
  obtain ⟨rfl, hsz, hP, hK, hD0, hN⟩ := hv
  have hx := B.exec
  have hb := B.bytes
  have hr := B.returns
  have hts := atoms_spec (ws := wsX2_fill) B.pre
  have hown : s.vm.findClass RX2 = some m.cls := findClass_of_methodNamed B.named
  have hlocks := B.notSynchronized
  subst hsz
  have hD := hD0.self (sz := s.heap.size)
  generalize hAe : va_A (sf_w a0 a1 a2 a3 cB cT LP gb md ct tb nm tk oc en fs la g st ln bf af) s.heap.size = A at hD ⊢
  have hA : ∀ q : Nat, s.heap.size ≤ q → A q := fun q h => by rw [← hAe]; exact Or.inr h
  have hS : va_S A s.heap s.heap [] := va_S.rf
  have hl := lv_entry ([.ref a0, .int row, .int i, .int n, .int d]) (n := 9) (Nat.le_of_ble_eq_true rfl)
  rw [lg_entry_eq]
  generalize (lg_sl ([.ref a0, .int row, .int i, .int n, .int d]) ++ List.replicate (9 - (lg_sl ([.ref a0, .int row, .int i, .int n, .int d])).length) Slot.unset).toArray = ls at hl ⊢
  have hl : lv_has ls 9 [(0, .ref a0), (1, .int row), (2, .int i), (3, .int n), (4, .int d)] := hl
  refine lv_aload_n hx hb dX2_fill_0 rfl (lv_at hl 0 rfl) ?_
  refine lv_iload_n hx hb dX2_fill_1 rfl (lv_at hl 1 rfl) ?_
  refine va_csq (va_Run.run (sf_runV (b := a0) (As := [.int row]) (rest := []) ⟨hx, hb, hml, hown, hts⟩ sf_has (c_find l dC dI a0 a1 a2 a3 cB cT LP gb md ct tb nm tk oc en fs la g st ln bf af _ _ (sf_CI_find hI).1 (sf_CI_find hI).2.1 (sf_CI_find hI).2.2) k_X2_59 ⟨sf_blind, va_recv hK hP (ci := 2) (q0 := 0) rfl rfl, sf_preU hP hK hD hN⟩ rfl hl.1 (Nat.le_of_ble_eq_true rfl) ⟨(Nat.le_of_ble_eq_true rfl), (Nat.le_of_ble_eq_true rfl)⟩ ⟨rfl, rfl⟩ ⟨Nat.zero_le _, Nat.zero_le _⟩ dX2_fill_2)) (fun r_2 h_2 => ?_)
  rcases h_2 with h_2 | h_2
  · obtain ⟨k_2, a_2, q1_2, q2_2, q3_2, q4_2, q5_2, q6_2⟩ := h_2
    subst q2_2
    subst q6_2
    obtain ⟨f1_2, f2_2, f3_2, f4_2, f5_2, f6_2, f7_2⟩ := sf_zr_some hI hR q1_2 q3_2 q5_2
    have hl : lv_has ls 9 [(0, .ref a0), (1, .int (nI k_2)), (2, .int i), (3, .int n), (4, .int d)] := hl
    refine lv_astore (lv' := [(5, .ref a_2), (0, .ref a0), (1, .int (nI k_2)), (2, .int i), (3, .int n), (4, .int d)]) hx hb dX2_fill_5 hl (by decide) rfl (fun ls hl => ?_)
    refine lv_aload hx hb dX2_fill_7 (lv_at hl 0 rfl) ?_
    refine lv_ifnull hx hb dX2_fill_9 ?_
    refine lv_aload hx hb dX2_fill_12 (lv_at hl 0 rfl) ?_
    refine lv_iload_n hx hb dX2_fill_14 rfl (lv_at hl 3 rfl) ?_
    refine lv_iload_n hx hb dX2_fill_15 rfl (lv_at hl 4 rfl) ?_
    refine vp_callSi (va_Run.run (sf_runS (As := [.ref a_2, .int i, .int n]) (rest := []) ⟨hx, hb, hml, hown, hts⟩ sf_has (c_hasBytes l dC dI a0 a1 a2 a3 cB cT LP gb md ct tb nm tk oc en fs la g st ln bf af _ a_2 q4_2 f6_2 i n) k_X2_84 ⟨sf_blind, sf_preU hP hK hD hN⟩ rfl hl.1 (Nat.le_of_ble_eq_true rfl) ⟨(Nat.le_of_ble_eq_true rfl), (Nat.le_of_ble_eq_true rfl)⟩ ⟨rfl, rfl⟩ ⟨Nat.zero_le _, Nat.zero_le _⟩ dX2_fill_16)) (fun r_16 h_16 => ?_)
    rcases h_16 with ⟨rfl, h_16⟩ | ⟨rfl, h_16⟩
    · obtain ⟨i0, n0, hin, rfl, rfl⟩ := h_16
      have hl : lv_has ls 9 [(5, .ref a_2), (0, .ref a0), (1, .int (nI k_2)), (2, .int (nI i0)), (3, .int (nI n0)), (4, .int d)] := hl
      refine sf_if_ne (tgt := 24) hx hb (by decide) dX2_fill_19 (by decide) (fun _ => ?_) (fun c_19 => absurd c_19 (by decide))
      refine lv_aload_n hx hb dX2_fill_24 rfl (lv_at hl 1 rfl) ?_
      refine va_get (D := (dC, dI)) (ci := 2) (v := .ref a1) (C := RX2) (T := TX2) (N := 5) hx hb hts sf_inX2 hown hK hP 0 rfl rfl 0 (by decide) (hts _ (sf_mem fl_X2_10 rfl)) (fun _ h9 => h9) rfl dX2_fill_25 ?_
      refine va_get (D := (dC, dI)) (ci := 0) (v := .ref a2) (C := RX0) (T := TX0) (N := 5) hx hb hts sf_inX0 hown hK hP 1 rfl rfl 0 (by decide) (hts _ (sf_mem fl_X2_77 rfl)) (fun _ h9 => h9) rfl dX2_fill_28 ?_
      refine lv_astore (lv' := [(6, .ref a2), (5, .ref a_2), (0, .ref a0), (1, .int (nI k_2)), (2, .int (nI i0)), (3, .int (nI n0)), (4, .int d)]) hx hb dX2_fill_31 hl (by decide) rfl (fun ls hl => ?_)
      refine lv_aload hx hb dX2_fill_33 (lv_at hl 1 rfl) ?_
      refine sf_rget (D := (dC, dI)) (ci := 1) (v := .int (nI (st a_2))) (C := RX1) (T := TX1) (N := 6) hx hb hts sf_inX1 hown hK hP q4_2 rfl rfl 2 (by decide) (hts _ (sf_mem fl_X2_81 rfl)) (fun _ h9 => h9) rfl dX2_fill_35 ?_
      refine lv_iload_n hx hb dX2_fill_38 rfl (lv_at hl 4 rfl) ?_
      refine sf_iadd hx hb dX2_fill_39 ?_
      refine lv_istore (lv' := [(7, .int (nI ((st a_2) + i0))), (6, .ref a2), (5, .ref a_2), (0, .ref a0), (1, .int (nI k_2)), (2, .int (nI i0)), (3, .int (nI n0)), (4, .int d)]) hx hb dX2_fill_40 hl (by decide) rfl (fun ls hl => ?_)
      refine lv_iconst (v := nI 0) hx hb dX2_fill_42 (by decide) ?_
      refine lv_istore (lv' := [(8, .int (nI 0)), (7, .int (nI ((st a_2) + i0))), (6, .ref a2), (5, .ref a_2), (0, .ref a0), (1, .int (nI k_2)), (2, .int (nI i0)), (3, .int (nI n0)), (4, .int d)]) hx hb dX2_fill_43 hl (by decide) rfl (fun ls hl => ?_)
      refine sf_loop (σ := Nat × (Nat → Int32)) (fun u => n0 - u.1) (fun u H locs ls => u.1 ≤ n0 ∧ (∀ p, u.2 p = if (st a_2 + i0) ≤ p ∧ p < (st a_2 + i0) + u.1 then zfb d (p - (st a_2 + i0)) else g p) ∧ sb_Fit u.2 ∧ va_P (dC, dI) vwCl (sf_w a0 a1 a2 a3 cB cT LP gb md ct tb nm tk oc en fs la u.2 st ln bf af) H ∧ va_D A (sf_w a0 a1 a2 a3 cB cT LP gb md ct tb nm tk oc en fs la u.2 st ln bf af) ∧ va_S A s.heap H locs ∧ lv_has ls 9 [(0, .ref a0), (1, .int (nI k_2)), (2, .int (nI i0)), (3, .int (nI n0)), (4, .int d), (5, .ref a_2), (6, .ref a2), (7, .int (nI (st a_2 + i0))), (8, .int (nI u.1))]) ?_ (0, g) _ _ _ ?_
      · intro u H locs ls hI2 ih
        obtain ⟨c0, g2⟩ := u
        obtain ⟨k1, k2, k3, hP, hD, hS, hl⟩ := hI2
        dsimp only at k1 k2 k3 hP hD hl ih
        refine lv_iload hx hb dX2_fill_45 (lv_at hl 8 rfl) ?_
        refine lv_iload_n hx hb dX2_fill_47 rfl (lv_at hl 3 rfl) ?_
        refine sf_icmp_ge (tgt := 81) hx hb (by omega) (by omega) dX2_fill_48 (by decide) (fun c_48 => ?_) (fun c_48 => ?_)
        · refine lv_iconst (v := nI 1) hx hb dX2_fill_81 (by decide) ?_
          exact W.zret (v := nI 1) hx hb hr (by decide) (fun t ht hW => ⟨⟨_, (LP, gb, md, ct, tb, nm, tk, oc, en, fs, la, g2, st, ln, bf, af), rfl, by rw [zs_fill_3 f1_2 (by omega) (by omega)]; exact ⟨rfl, sf_OK_fill hI hR f3_2 f2_2 k3 hin f5_2 (by rw [show c0 = n0 by omega] at k2; exact k2)⟩, by rw [ht]; exact hP, hD⟩, hS.F ht⟩) hS.2.2 dX2_fill_82
        · refine lv_aload hx hb dX2_fill_51 (lv_at hl 6 rfl) ?_
          refine lv_iload hx hb dX2_fill_53 (lv_at hl 7 rfl) ?_
          refine lv_iload hx hb dX2_fill_55 (lv_at hl 8 rfl) ?_
          refine sf_iadd hx hb dX2_fill_57 ?_
          refine lv_iload hx hb dX2_fill_58 (lv_at hl 4 rfl) ?_
          refine lv_bipush (v := nI 7) hx hb dX2_fill_60 (by decide) ?_
          refine lv_iload hx hb dX2_fill_62 (lv_at hl 8 rfl) ?_
          refine sf_imul hx hb dX2_fill_64 ?_
          refine lv_iadd hx hb dX2_fill_65 ?_
          refine lv_iload hx hb dX2_fill_66 (lv_at hl 8 rfl) ?_
          refine lv_sipush (v := nI 250) hx hb dX2_fill_68 (by decide) ?_
          refine sf_idiv hx hb (by omega) (by omega) (by omega) dX2_fill_71 ?_
          refine lv_iadd hx hb dX2_fill_72 ?_
          refine lv_i2b hx hb dX2_fill_73 rfl ?_
          refine sf_bast hx hb hK hP hD hS 2 0 rfl rfl (pk_vb _) (by omega) (by decide) dX2_fill_74 (fun H locs hP hD hS => ?_)
          have hP : va_P (dC, dI) vwCl (sf_w a0 a1 a2 a3 cB cT LP gb md ct tb nm tk oc en fs la (upd g2 ((st a_2 + i0) + c0) (((d + (nI (7 * c0))) + (nI (c0 / 250))).toInt8.toInt32)) st ln bf af) H := hP
          have hD : va_D A (sf_w a0 a1 a2 a3 cB cT LP gb md ct tb nm tk oc en fs la (upd g2 ((st a_2 + i0) + c0) (((d + (nI (7 * c0))) + (nI (c0 / 250))).toInt8.toInt32)) st ln bf af) := hD
          refine lv_iinc (v := nI (c0 + 1)) (lv' := [(8, .int (nI (c0 + 1))), (0, .ref a0), (1, .int (nI k_2)), (2, .int (nI i0)), (3, .int (nI n0)), (4, .int d), (5, .ref a_2), (6, .ref a2), (7, .int (nI (st a_2 + i0)))]) hx hb dX2_fill_75 hl (k := 8) rfl (nI_1 c0) (by decide) rfl (fun ls hl => ?_)
          refine lv_goto (tgt := 45) hx hb dX2_fill_78 (by decide) ?_
          exact ih (c0 + 1, upd g2 (st a_2 + i0 + c0) (zfb d c0)) _ _ _ (by dsimp only; omega) ⟨by dsimp only; omega, sf_fill_go (h := zfb d) k2, sb_fitU k3 (pk_fb _), hP, hD, hS, lv_sub hl [1, 2, 3, 4, 5, 6, 7, 8, 0] rfl⟩
      · exact ⟨Nat.zero_le _, fun p => by rw [if_neg (by omega)], hI.1.2.2.2.2.2.2.2.2.2, hP, hD, hS, lv_sub hl [4, 5, 6, 7, 8, 3, 2, 1, 0] rfl⟩
    · rw [← f4_2] at h_16
      refine sf_if_ne (tgt := 24) hx hb (by decide) dX2_fill_19 (by decide) (fun c_19 => absurd c_19 (by decide)) (fun _ => ?_)
      refine lv_iconst (v := nI 0) hx hb dX2_fill_22 (by decide) ?_
      exact W.zret (v := nI 0) hx hb hr (by decide) (fun t ht hW => ⟨⟨_, (LP, gb, md, ct, tb, nm, tk, oc, en, fs, la, g, st, ln, bf, af), rfl, by rw [zs_fill_2 f1_2 (by omega) h_16]; exact ⟨rfl, cs, fr, hI, hR⟩, by rw [ht]; exact hP, hD⟩, hS.F ht⟩) hS.2.2 dX2_fill_23
  · obtain ⟨q1_2, q2_2⟩ := h_2
    subst q1_2
    have f1_2 := sf_zr_none hI hR q2_2
    refine lv_astoreN (lv' := [(5, .null), (0, .ref a0), (1, .int row), (2, .int i), (3, .int n), (4, .int d)]) hx hb dX2_fill_5 hl (by decide) rfl (fun ls hl => ?_)
    refine lv_aloadN hx hb dX2_fill_7 (lv_at hl 0 rfl) ?_
    refine lv_ifnullN (tgt := 22) hx hb dX2_fill_9 (by decide) ?_
    refine lv_iconst (v := nI 0) hx hb dX2_fill_22 (by decide) ?_
    exact W.zret (v := nI 0) hx hb hr (by decide) (fun t ht hW => ⟨⟨_, (LP, gb, md, ct, tb, nm, tk, oc, en, fs, la, g, st, ln, bf, af), rfl, by rw [zs_fill_1 f1_2]; exact ⟨rfl, cs, fr, hI, hR⟩, by rw [ht]; exact hP, hD⟩, hS.F ht⟩) hS.2.2 dX2_fill_23
theorem sf_res_f {z : sf_Z} {k a n : Nat} {g g2 : Nat → Int32} {st st2 ln : Nat → Nat} (f4 : zLn z k = ln a) (f5 : ∀ i, i < ln a → zBy z k i = g (st a + i)) (e6 : ∀ i, i < n → g2 (st2 a + i) = if i < ln a then g (st a + i) else 0) : ∀ i, i < n → (fun i => if i < zLn z k then zBy z k i else 0) i = g2 (st2 a + i) := by
  intro i hi
  show (if i < zLn z k then zBy z k i else 0) = _
  rw [e6 i hi, f4]
  by_cases q : i < ln a
  · rw [if_pos q, if_pos q]; exact f5 i q
  · rw [if_neg q, if_neg q]
set_option maxHeartbeats 4000000 in
set_option maxRecDepth 100000 in
/-- resize(row, n) -/
theorem c_resize (l : Launch) (dC : Nat → ClassId) (dI : Nat → Nat → Nat) (a0 a1 a2 a3 : Nat) (cB cT : ClassId) (LP : List Nat) (gb : Option Nat) (md ct : Nat) (tb : Nat → Option Nat) (nm tk : Nat → Nat) (oc en : Nat) (fs la : Option Nat) (g : Nat → Int32) (st ln : Nat → Nat) (bf af : Nat → Option Nat) (sz : Nat) (z : sf_Z) (cs fr : List Nat) (hI : sf_CI LP gb md ct tb nm tk oc en fs la g st ln bf af cs fr) (hR : sf_CR LP nm tk ln st g cs fr ct oc z) (row n : Int32) : Met l yX2_resize wsX2_resize ({ frames := 5, cells := 0, slots := 0, locals := 150 } : Room) (sf_Pre (dC, dI) vwCl [(cB, .byte), (cT, .object "ByteShelf$Row")] [.ref a0, .int row, .int n] (sf_w a0 a1 a2 a3 cB cT LP gb md ct tb nm tk oc en fs la g st ln bf af) sz) (va_Qi (fun (r : Int32) (u : sf_Sx) => r = (zs_resize z row n).1 ∧ sf_OKu u (zs_resize z row n).2) (sf_E (dC, dI) vwCl (va_A (sf_w a0 a1 a2 a3 cB cT LP gb md ct tb nm tk oc en fs la g st ln bf af) sz) (fun (u : sf_Sx) => sf_w a0 a1 a2 a3 cB cT u.1 u.2.1 u.2.2.1 u.2.2.2.1 u.2.2.2.2.1 u.2.2.2.2.2.1 u.2.2.2.2.2.2.1 u.2.2.2.2.2.2.2.1 u.2.2.2.2.2.2.2.2.1 u.2.2.2.2.2.2.2.2.2.1 u.2.2.2.2.2.2.2.2.2.2.1 u.2.2.2.2.2.2.2.2.2.2.2.1 u.2.2.2.2.2.2.2.2.2.2.2.2.1 u.2.2.2.2.2.2.2.2.2.2.2.2.2.1 u.2.2.2.2.2.2.2.2.2.2.2.2.2.2.1 u.2.2.2.2.2.2.2.2.2.2.2.2.2.2.2)) (va_A (sf_w a0 a1 a2 a3 cB cT LP gb md ct tb nm tk oc en fs la g st ln bf af) sz)) 0 0 (va_A (sf_w a0 a1 a2 a3 cB cT LP gb md ct tb nm tk oc en fs la g st ln bf af) sz) := by
  refine Met.ofW (cc := cX2_resize) (maxL := 4) (ret := (some .int)) (by decide) rfl ?_
  intro p e s m args below meth c s₁ B hml hv
  obtain ⟨rfl, hsz, hP, hK, hD0, hN⟩ := hv
  have hx := B.exec
  have hb := B.bytes
  have hr := B.returns
  have hts := atoms_spec (ws := wsX2_resize) B.pre
  have hown : s.vm.findClass RX2 = some m.cls := findClass_of_methodNamed B.named
  have hlocks := B.notSynchronized
  subst hsz
  have hD := hD0.self (sz := s.heap.size)
  generalize hAe : va_A (sf_w a0 a1 a2 a3 cB cT LP gb md ct tb nm tk oc en fs la g st ln bf af) s.heap.size = A at hD ⊢
  have hA : ∀ q : Nat, s.heap.size ≤ q → A q := fun q h => by rw [← hAe]; exact Or.inr h
  have hS : va_S A s.heap s.heap [] := va_S.rf
  have hl := lv_entry ([.ref a0, .int row, .int n]) (n := 4) (Nat.le_of_ble_eq_true rfl)
  rw [lg_entry_eq]
  generalize (lg_sl ([.ref a0, .int row, .int n]) ++ List.replicate (4 - (lg_sl ([.ref a0, .int row, .int n])).length) Slot.unset).toArray = ls at hl ⊢
  have hl : lv_has ls 4 [(0, .ref a0), (1, .int row), (2, .int n)] := hl
  refine lv_aload_n hx hb dX2_resize_0 rfl (lv_at hl 0 rfl) ?_
  refine lv_iload_n hx hb dX2_resize_1 rfl (lv_at hl 1 rfl) ?_
  refine va_csq (va_Run.run (sf_runV (b := a0) (As := [.int row]) (rest := []) ⟨hx, hb, hml, hown, hts⟩ sf_has (c_find l dC dI a0 a1 a2 a3 cB cT LP gb md ct tb nm tk oc en fs la g st ln bf af _ _ (sf_CI_find hI).1 (sf_CI_find hI).2.1 (sf_CI_find hI).2.2) k_X2_59 ⟨sf_blind, va_recv hK hP (ci := 2) (q0 := 0) rfl rfl, sf_preU hP hK hD hN⟩ rfl hl.1 (Nat.le_of_ble_eq_true rfl) ⟨(Nat.le_of_ble_eq_true rfl), (Nat.le_of_ble_eq_true rfl)⟩ ⟨rfl, rfl⟩ ⟨Nat.zero_le _, Nat.zero_le _⟩ dX2_resize_2)) (fun r_2 h_2 => ?_)
  rcases h_2 with h_2 | h_2
  · obtain ⟨k_2, a_2, q1_2, q2_2, q3_2, q4_2, q5_2, q6_2⟩ := h_2
    subst q2_2
    subst q6_2
    obtain ⟨f1_2, f2_2, f3_2, f4_2, f5_2, f6_2, f7_2⟩ := sf_zr_some hI hR q1_2 q3_2 q5_2
    have hl : lv_has ls 4 [(0, .ref a0), (1, .int (nI k_2)), (2, .int n)] := hl
    refine lv_astore_n (lv' := [(3, .ref a_2), (0, .ref a0), (1, .int (nI k_2)), (2, .int n)]) hx hb dX2_resize_5 rfl hl (by decide) rfl (fun ls hl => ?_)
    refine lv_aload_n hx hb dX2_resize_6 rfl (lv_at hl 0 rfl) ?_
    refine lv_ifnull hx hb dX2_resize_7 ?_
    refine lv_iload_n hx hb dX2_resize_10 rfl (lv_at hl 3 rfl) ?_
    refine vp_callSi (va_Run.run (sf_runS (As := [.int n]) (rest := []) ⟨hx, hb, hml, hown, hts⟩ sf_has (c_isLength l n) k_X2_33 ⟨sf_blindT, sf_preT⟩ rfl hl.1 (Nat.le_of_ble_eq_true rfl) ⟨(Nat.le_of_ble_eq_true rfl), (Nat.le_of_ble_eq_true rfl)⟩ ⟨rfl, rfl⟩ ⟨Nat.zero_le _, Nat.zero_le _⟩ dX2_resize_11)) (fun r_11 h_11 => ?_)
    rcases h_11 with ⟨rfl, h_11⟩ | ⟨rfl, h_11⟩
    · obtain ⟨m, hm, rfl⟩ := h_11
      have hl : lv_has ls 4 [(3, .ref a_2), (0, .ref a0), (1, .int (nI k_2)), (2, .int (nI m))] := hl
      refine sf_if_ne (tgt := 19) hx hb (by decide) dX2_resize_14 (by decide) (fun _ => ?_) (fun c_14 => absurd c_14 (by decide))
      refine lv_aload_n hx hb dX2_resize_19 rfl (lv_at hl 1 rfl) ?_
      refine va_get (D := (dC, dI)) (ci := 2) (v := .ref a1) (C := RX2) (T := TX2) (N := 5) hx hb hts sf_inX2 hown hK hP 0 rfl rfl 0 (by decide) (hts _ (sf_mem fl_X2_10 rfl)) (fun _ h9 => h9) rfl dX2_resize_20 ?_
      refine lv_aload_n hx hb dX2_resize_23 rfl (lv_at hl 0 rfl) ?_
      refine lv_iload_n hx hb dX2_resize_24 rfl (lv_at hl 3 rfl) ?_
      refine sf_ci (sf_runV (b := a1) (As := [.ref a_2, .int (nI m)]) (rest := []) ⟨hx, hb, hml, hown, hts⟩ sf_has (c_setLength l dC dI a0 a1 a2 a3 cB cT LP gb md ct tb nm tk oc en fs la g st ln bf af _ cs hI.1 a_2 f2_2 m hm) k_X2_70 ⟨sf_blind, va_recv hK hP (ci := 0) (q0 := 1) rfl rfl, sf_preU hP hK hD hN⟩ rfl hl.1 (Nat.le_of_ble_eq_true rfl) ⟨(Nat.le_of_ble_eq_true rfl), (Nat.le_of_ble_eq_true rfl)⟩ ⟨rfl, rfl⟩ ⟨Nat.zero_le _, Nat.zero_le _⟩ dX2_resize_25) hD hS hA (fun r_25 u_25 H locs h_25 hP hD hS => ?_)
      rcases h_25 with ⟨rfl, s1, s2, rfl⟩ | ⟨rfl, s1, s2⟩
      · have hP : va_P (dC, dI) vwCl (sf_w a0 a1 a2 a3 cB cT LP gb md ct tb nm tk oc en fs la g st ln bf af) H := hP
        have hD : va_D A (sf_w a0 a1 a2 a3 cB cT LP gb md ct tb nm tk oc en fs la g st ln bf af) := hD
        refine sf_if_eq (tgt := 35) hx hb (by decide) dX2_resize_28 (by decide) (fun _ => ?_) (fun c_28 => absurd c_28 (by decide))
        refine lv_bipush (v := -2) hx hb dX2_resize_35 (by decide) ?_
        exact W.iret (v := -2) hx hb hr (fun t ht hW => ⟨⟨_, (LP, gb, md, ct, tb, nm, tk, oc, en, fs, la, g, st, ln, bf, af), rfl, by rw [zs_res_3 f1_2 hm (by rw [f4_2, hR.2.2.2.2.2]; exact ⟨s1, s2⟩)]; exact ⟨rfl, cs, fr, hI, hR⟩, by rw [ht]; exact hP, hD⟩, hS.F ht⟩) hS.2.2 dX2_resize_37
      · obtain ⟨cs2, oc2, en2, fs2, la2, g2, st2, bf2, af2, rfl, e1, e2, e3, e4, e5, e6, e7⟩ := s2
        have hP : va_P (dC, dI) vwCl (sf_w a0 a1 a2 a3 cB cT LP gb md ct tb nm tk oc2 en2 fs2 la2 g2 st2 (va_up ln a_2 m) bf2 af2) H := hP
        have hD : va_D A (sf_w a0 a1 a2 a3 cB cT LP gb md ct tb nm tk oc2 en2 fs2 la2 g2 st2 (va_up ln a_2 m) bf2 af2) := hD
        refine sf_if_eq (tgt := 35) hx hb (by decide) dX2_resize_28 (by decide) (fun c_28 => absurd c_28 (by decide)) (fun _ => ?_)
        refine lv_iload_n hx hb dX2_resize_31 rfl (lv_at hl 3 rfl) ?_
        refine lv_goto (tgt := 37) hx hb dX2_resize_32 (by decide) ?_
        exact W.iret (v := nI m) hx hb hr (fun t ht hW => ⟨⟨_, (LP, gb, md, ct, tb, nm, tk, oc2, en2, fs2, la2, g2, st2, (va_up ln a_2 m), bf2, af2), rfl, by rw [zs_res_4 f1_2 hm (by rw [f4_2, hR.2.2.2.2.2]; exact s1)]; exact ⟨rfl, cs2, fr, sf_OK_len hI hR f3_2 f2_2 e1 e2 e3 e4 e5 (sf_res_f f4_2 f5_2 e6) e7⟩, by rw [ht]; exact hP, hD⟩, hS.F ht⟩) hS.2.2 dX2_resize_37
    · have hzn : zi n 16385 = none := zi_none (by omega) (fun k hk => h_11 k (by omega))
      refine sf_if_ne (tgt := 19) hx hb (by decide) dX2_resize_14 (by decide) (fun c_14 => absurd c_14 (by decide)) (fun _ => ?_)
      refine lv_iconst (v := -1) hx hb dX2_resize_17 (by decide) ?_
      exact W.iret (v := -1) hx hb hr (fun t ht hW => ⟨⟨_, (LP, gb, md, ct, tb, nm, tk, oc, en, fs, la, g, st, ln, bf, af), rfl, by rw [zs_res_2 f1_2 hzn]; exact ⟨rfl, cs, fr, hI, hR⟩, by rw [ht]; exact hP, hD⟩, hS.F ht⟩) hS.2.2 dX2_resize_18
  · obtain ⟨q1_2, q2_2⟩ := h_2
    subst q1_2
    have f1_2 := sf_zr_none hI hR q2_2
    refine lv_astore_nN (lv' := [(3, .null), (0, .ref a0), (1, .int row), (2, .int n)]) hx hb dX2_resize_5 rfl hl (by decide) rfl (fun ls hl => ?_)
    refine lv_aload_nN hx hb dX2_resize_6 rfl (lv_at hl 0 rfl) ?_
    refine lv_ifnullN (tgt := 17) hx hb dX2_resize_7 (by decide) ?_
    refine lv_iconst (v := -1) hx hb dX2_resize_17 (by decide) ?_
    exact W.iret (v := -1) hx hb hr (fun t ht hW => ⟨⟨_, (LP, gb, md, ct, tb, nm, tk, oc, en, fs, la, g, st, ln, bf, af), rfl, by rw [zs_res_1 f1_2]; exact ⟨rfl, cs, fr, hI, hR⟩, by rw [ht]; exact hP, hD⟩, hS.F ht⟩) hS.2.2 dX2_resize_18
set_option maxHeartbeats 4000000 in
set_option maxRecDepth 100000 in
/-- copy(row, src) -/
theorem c_copy (l : Launch) (dC : Nat → ClassId) (dI : Nat → Nat → Nat) (a0 a1 a2 a3 : Nat) (cB cT : ClassId) (LP : List Nat) (gb : Option Nat) (md ct : Nat) (tb : Nat → Option Nat) (nm tk : Nat → Nat) (oc en : Nat) (fs la : Option Nat) (g : Nat → Int32) (st ln : Nat → Nat) (bf af : Nat → Option Nat) (sz : Nat) (z : sf_Z) (cs fr : List Nat) (hI : sf_CI LP gb md ct tb nm tk oc en fs la g st ln bf af cs fr) (hR : sf_CR LP nm tk ln st g cs fr ct oc z) (row src : Int32) : Met l yX2_copy wsX2_copy ({ frames := 5, cells := 0, slots := 0, locals := 150 } : Room) (sf_Pre (dC, dI) vwCl [(cB, .byte), (cT, .object "ByteShelf$Row")] [.ref a0, .int row, .int src] (sf_w a0 a1 a2 a3 cB cT LP gb md ct tb nm tk oc en fs la g st ln bf af) sz) (va_Qi (fun (r : Int32) (u : sf_Sx) => r = (zs_copy z row src).1 ∧ sf_OKu u (zs_copy z row src).2) (sf_E (dC, dI) vwCl (va_A (sf_w a0 a1 a2 a3 cB cT LP gb md ct tb nm tk oc en fs la g st ln bf af) sz) (fun (u : sf_Sx) => sf_w a0 a1 a2 a3 cB cT u.1 u.2.1 u.2.2.1 u.2.2.2.1 u.2.2.2.2.1 u.2.2.2.2.2.1 u.2.2.2.2.2.2.1 u.2.2.2.2.2.2.2.1 u.2.2.2.2.2.2.2.2.1 u.2.2.2.2.2.2.2.2.2.1 u.2.2.2.2.2.2.2.2.2.2.1 u.2.2.2.2.2.2.2.2.2.2.2.1 u.2.2.2.2.2.2.2.2.2.2.2.2.1 u.2.2.2.2.2.2.2.2.2.2.2.2.2.1 u.2.2.2.2.2.2.2.2.2.2.2.2.2.2.1 u.2.2.2.2.2.2.2.2.2.2.2.2.2.2.2)) (va_A (sf_w a0 a1 a2 a3 cB cT LP gb md ct tb nm tk oc en fs la g st ln bf af) sz)) 0 0 (va_A (sf_w a0 a1 a2 a3 cB cT LP gb md ct tb nm tk oc en fs la g st ln bf af) sz) := by
  refine Met.ofW (cc := cX2_copy) (maxL := 5) (ret := (some .int)) (by decide) rfl ?_
  intro p e s m args below meth c s₁ B hml hv
  obtain ⟨rfl, hsz, hP, hK, hD0, hN⟩ := hv
  have hx := B.exec
  have hb := B.bytes
  have hr := B.returns
  have hts := atoms_spec (ws := wsX2_copy) B.pre
  have hown : s.vm.findClass RX2 = some m.cls := findClass_of_methodNamed B.named
  have hlocks := B.notSynchronized
  subst hsz
  have hD := hD0.self (sz := s.heap.size)
  generalize hAe : va_A (sf_w a0 a1 a2 a3 cB cT LP gb md ct tb nm tk oc en fs la g st ln bf af) s.heap.size = A at hD ⊢
  have hA : ∀ q : Nat, s.heap.size ≤ q → A q := fun q h => by rw [← hAe]; exact Or.inr h
  have hS : va_S A s.heap s.heap [] := va_S.rf
  have hl := lv_entry ([.ref a0, .int row, .int src]) (n := 5) (Nat.le_of_ble_eq_true rfl)
  rw [lg_entry_eq]
  generalize (lg_sl ([.ref a0, .int row, .int src]) ++ List.replicate (5 - (lg_sl ([.ref a0, .int row, .int src])).length) Slot.unset).toArray = ls at hl ⊢
  have hl : lv_has ls 5 [(0, .ref a0), (1, .int row), (2, .int src)] := hl
  refine lv_aload_n hx hb dX2_copy_0 rfl (lv_at hl 0 rfl) ?_
  refine lv_iload_n hx hb dX2_copy_1 rfl (lv_at hl 1 rfl) ?_
  refine va_csq (va_Run.run (sf_runV (b := a0) (As := [.int row]) (rest := []) ⟨hx, hb, hml, hown, hts⟩ sf_has (c_find l dC dI a0 a1 a2 a3 cB cT LP gb md ct tb nm tk oc en fs la g st ln bf af _ _ (sf_CI_find hI).1 (sf_CI_find hI).2.1 (sf_CI_find hI).2.2) k_X2_59 ⟨sf_blind, va_recv hK hP (ci := 2) (q0 := 0) rfl rfl, sf_preU hP hK hD hN⟩ rfl hl.1 (Nat.le_of_ble_eq_true rfl) ⟨(Nat.le_of_ble_eq_true rfl), (Nat.le_of_ble_eq_true rfl)⟩ ⟨rfl, rfl⟩ ⟨Nat.zero_le _, Nat.zero_le _⟩ dX2_copy_2)) (fun r_2 h_2 => ?_)
  rcases h_2 with h_2 | h_2
  · obtain ⟨k_2, a_2, q1_2, q2_2, q3_2, q4_2, q5_2, q6_2⟩ := h_2
    subst q2_2
    subst q6_2
    obtain ⟨f1_2, f2_2, f3_2, f4_2, f5_2, f6_2, f7_2⟩ := sf_zr_some hI hR q1_2 q3_2 q5_2
    have hl : lv_has ls 5 [(0, .ref a0), (1, .int (nI k_2)), (2, .int src)] := hl
    refine lv_astore_n (lv' := [(3, .ref a_2), (0, .ref a0), (1, .int (nI k_2)), (2, .int src)]) hx hb dX2_copy_5 rfl hl (by decide) rfl (fun ls hl => ?_)
    refine lv_aload_n hx hb dX2_copy_6 rfl (lv_at hl 1 rfl) ?_
    refine lv_iload_n hx hb dX2_copy_7 rfl (lv_at hl 3 rfl) ?_
    refine va_csq (va_Run.run (sf_runV (b := a0) (As := [.int src]) (rest := []) ⟨hx, hb, hml, hown, hts⟩ sf_has (c_find l dC dI a0 a1 a2 a3 cB cT LP gb md ct tb nm tk oc en fs la g st ln bf af _ _ (sf_CI_find hI).1 (sf_CI_find hI).2.1 (sf_CI_find hI).2.2) k_X2_59 ⟨sf_blind, va_recv hK hP (ci := 2) (q0 := 0) rfl rfl, sf_preU hP hK hD hN⟩ rfl hl.1 (Nat.le_of_ble_eq_true rfl) ⟨(Nat.le_of_ble_eq_true rfl), (Nat.le_of_ble_eq_true rfl)⟩ ⟨rfl, rfl⟩ ⟨Nat.zero_le _, Nat.zero_le _⟩ dX2_copy_8)) (fun r_8 h_8 => ?_)
    rcases h_8 with h_8 | h_8
    · obtain ⟨k_8, a_8, q1_8, q2_8, q3_8, q4_8, q5_8, q6_8⟩ := h_8
      subst q2_8
      subst q6_8
      obtain ⟨f1_8, f2_8, f3_8, f4_8, f5_8, f6_8, f7_8⟩ := sf_zr_some hI hR q1_8 q3_8 q5_8
      have hl : lv_has ls 5 [(3, .ref a_2), (0, .ref a0), (1, .int (nI k_2)), (2, .int (nI k_8))] := hl
      refine lv_astore (lv' := [(4, .ref a_8), (3, .ref a_2), (0, .ref a0), (1, .int (nI k_2)), (2, .int (nI k_8))]) hx hb dX2_copy_11 hl (by decide) rfl (fun ls hl => ?_)
      refine lv_aload_n hx hb dX2_copy_13 rfl (lv_at hl 1 rfl) ?_
      refine lv_ifnull hx hb dX2_copy_14 ?_
      refine lv_aload hx hb dX2_copy_17 (lv_at hl 0 rfl) ?_
      refine lv_ifnonnull (tgt := 24) hx hb dX2_copy_19 (by decide) ?_
      refine lv_aload_n hx hb dX2_copy_24 rfl (lv_at hl 2 rfl) ?_
      refine va_get (D := (dC, dI)) (ci := 2) (v := .ref a1) (C := RX2) (T := TX2) (N := 5) hx hb hts sf_inX2 hown hK hP 0 rfl rfl 0 (by decide) (hts _ (sf_mem fl_X2_10 rfl)) (fun _ h9 => h9) rfl dX2_copy_25 ?_
      refine lv_aload_n hx hb dX2_copy_28 rfl (lv_at hl 1 rfl) ?_
      refine lv_aload hx hb dX2_copy_29 (lv_at hl 0 rfl) ?_
      refine sf_rget (D := (dC, dI)) (ci := 1) (v := .int (nI (ln a_8))) (C := RX1) (T := TX1) (N := 6) hx hb hts sf_inX1 hown hK hP q4_8 rfl rfl 3 (by decide) (hts _ (sf_mem fl_X2_88 rfl)) (fun _ h9 => h9) rfl dX2_copy_31 ?_
      refine sf_ci (sf_runV (b := a1) (As := [.ref a_2, .int (nI (ln a_8))]) (rest := []) ⟨hx, hb, hml, hown, hts⟩ sf_has (c_setLength l dC dI a0 a1 a2 a3 cB cT LP gb md ct tb nm tk oc en fs la g st ln bf af _ cs hI.1 a_2 f2_2 (ln a_8) f6_8) k_X2_70 ⟨sf_blind, va_recv hK hP (ci := 0) (q0 := 1) rfl rfl, sf_preU hP hK hD hN⟩ rfl hl.1 (Nat.le_of_ble_eq_true rfl) ⟨(Nat.le_of_ble_eq_true rfl), (Nat.le_of_ble_eq_true rfl)⟩ ⟨rfl, rfl⟩ ⟨Nat.zero_le _, Nat.zero_le _⟩ dX2_copy_34) hD hS hA (fun r_34 u_34 H locs h_34 hP hD hS => ?_)
      rcases h_34 with ⟨rfl, s1, s2, rfl⟩ | ⟨rfl, s1, s2⟩
      · have hP : va_P (dC, dI) vwCl (sf_w a0 a1 a2 a3 cB cT LP gb md ct tb nm tk oc en fs la g st ln bf af) H := hP
        have hD : va_D A (sf_w a0 a1 a2 a3 cB cT LP gb md ct tb nm tk oc en fs la g st ln bf af) := hD
        refine sf_if_ne (tgt := 43) hx hb (by decide) dX2_copy_37 (by decide) (fun c_37 => absurd c_37 (by decide)) (fun _ => ?_)
        refine lv_bipush (v := -2) hx hb dX2_copy_40 (by decide) ?_
        exact W.iret (v := -2) hx hb hr (fun t ht hW => ⟨⟨_, (LP, gb, md, ct, tb, nm, tk, oc, en, fs, la, g, st, ln, bf, af), rfl, by rw [zs_cpy_3 f1_2 f1_8 (by rw [f4_2, f4_8, hR.2.2.2.2.2]; exact ⟨s1, s2⟩)]; exact ⟨rfl, cs, fr, hI, hR⟩, by rw [ht]; exact hP, hD⟩, hS.F ht⟩) hS.2.2 dX2_copy_42
      · obtain ⟨cs2, oc2, en2, fs2, la2, g2, st2, bf2, af2, rfl, e1, e2, e3, e4, e5, e6, e7⟩ := s2
        have hP : va_P (dC, dI) vwCl (sf_w a0 a1 a2 a3 cB cT LP gb md ct tb nm tk oc2 en2 fs2 la2 g2 st2 (va_up ln a_2 (ln a_8)) bf2 af2) H := hP
        have hD : va_D A (sf_w a0 a1 a2 a3 cB cT LP gb md ct tb nm tk oc2 en2 fs2 la2 g2 st2 (va_up ln a_2 (ln a_8)) bf2 af2) := hD
        have hlen : va_up ln a_2 (ln a_8) a_8 = ln a_8 := sf_up_same
        have m1 := (sf_MI_st e4 ((e2 a_2).mpr f2_2)).2.2.1
        rw [va_up_self] at m1
        have m2 := (sf_MI_st e4 ((e2 a_8).mpr f2_8)).2.2.1
        rw [hlen] at m2
        refine sf_if_ne (tgt := 43) hx hb (by decide) dX2_copy_37 (by decide) (fun _ => ?_) (fun c_37 => absurd c_37 (by decide))
        refine lv_aload_n hx hb dX2_copy_43 rfl (lv_at hl 2 rfl) ?_
        refine va_get (D := (dC, dI)) (ci := 2) (v := .ref a1) (C := RX2) (T := TX2) (N := 5) hx hb hts sf_inX2 hown hK hP 0 rfl rfl 0 (by decide) (hts _ (sf_mem fl_X2_10 rfl)) (fun _ h9 => h9) rfl dX2_copy_44 ?_
        refine va_get (D := (dC, dI)) (ci := 0) (v := .ref a2) (C := RX0) (T := TX0) (N := 5) hx hb hts sf_inX0 hown hK hP 1 rfl rfl 0 (by decide) (hts _ (sf_mem fl_X2_77 rfl)) (fun _ h9 => h9) rfl dX2_copy_47 ?_
        refine lv_aload hx hb dX2_copy_50 (lv_at hl 0 rfl) ?_
        refine sf_rget (D := (dC, dI)) (ci := 1) (v := .int (nI (st2 a_8))) (C := RX1) (T := TX1) (N := 6) hx hb hts sf_inX1 hown hK hP q4_8 rfl rfl 2 (by decide) (hts _ (sf_mem fl_X2_81 rfl)) (fun _ h9 => h9) rfl dX2_copy_52 ?_
        refine lv_aload_n hx hb dX2_copy_55 rfl (lv_at hl 2 rfl) ?_
        refine va_get (D := (dC, dI)) (ci := 2) (v := .ref a1) (C := RX2) (T := TX2) (N := 5) hx hb hts sf_inX2 hown hK hP 0 rfl rfl 0 (by decide) (hts _ (sf_mem fl_X2_10 rfl)) (fun _ h9 => h9) rfl dX2_copy_56 ?_
        refine va_get (D := (dC, dI)) (ci := 0) (v := .ref a2) (C := RX0) (T := TX0) (N := 5) hx hb hts sf_inX0 hown hK hP 1 rfl rfl 0 (by decide) (hts _ (sf_mem fl_X2_77 rfl)) (fun _ h9 => h9) rfl dX2_copy_59 ?_
        refine lv_aload_n hx hb dX2_copy_62 rfl (lv_at hl 1 rfl) ?_
        refine sf_rget (D := (dC, dI)) (ci := 1) (v := .int (nI (st2 a_2))) (C := RX1) (T := TX1) (N := 6) hx hb hts sf_inX1 hown hK hP q4_2 rfl rfl 2 (by decide) (hts _ (sf_mem fl_X2_81 rfl)) (fun _ h9 => h9) rfl dX2_copy_63 ?_
        refine lv_aload hx hb dX2_copy_66 (lv_at hl 0 rfl) ?_
        refine sf_rget (D := (dC, dI)) (ci := 1) (v := .int (nI (ln a_8))) (C := RX1) (T := TX1) (N := 6) hx hb hts sf_inX1 hown hK hP q4_8 rfl rfl 3 (by decide) (hts _ (sf_mem fl_X2_88 rfl)) (fun _ h9 => h9) (congrArg (fun z => some (Value.int (nI z))) hlen) dX2_copy_68 ?_
        refine sf_copy hx hb (hml.trans hl.1.symm) hown hts sf_has ml_X2_91 hK hP hD hS 2 0 rfl rfl (by decide) (by omega) (by omega) e4.2.2.2.2.2.2.2.2.2 (Nat.le_of_ble_eq_true rfl) (Nat.le_of_ble_eq_true rfl) dX2_copy_71 (fun H locs hP hD hS => ?_)
        have hP : va_P (dC, dI) vwCl (sf_w a0 a1 a2 a3 cB cT LP gb md ct tb nm tk oc2 en2 fs2 la2 (va_cpy g2 g2 (st2 a_8) (st2 a_2) (ln a_8)) st2 (va_up ln a_2 (ln a_8)) bf2 af2) H := hP
        have hD : va_D A (sf_w a0 a1 a2 a3 cB cT LP gb md ct tb nm tk oc2 en2 fs2 la2 (va_cpy g2 g2 (st2 a_8) (st2 a_2) (ln a_8)) st2 (va_up ln a_2 (ln a_8)) bf2 af2) := hD
        refine lv_aload hx hb dX2_copy_74 (lv_at hl 0 rfl) ?_
        refine sf_rget (D := (dC, dI)) (ci := 1) (v := .int (nI (ln a_8))) (C := RX1) (T := TX1) (N := 6) hx hb hts sf_inX1 hown hK hP q4_8 rfl rfl 3 (by decide) (hts _ (sf_mem fl_X2_88 rfl)) (fun _ h9 => h9) (congrArg (fun z => some (Value.int (nI z))) hlen) dX2_copy_76 ?_
        exact W.iret (v := nI (ln a_8)) hx hb hr (fun t ht hW => ⟨⟨_, (LP, gb, md, ct, tb, nm, tk, oc2, en2, fs2, la2, (va_cpy g2 g2 (st2 a_8) (st2 a_2) (ln a_8)), st2, (va_up ln a_2 (ln a_8)), bf2, af2), rfl, by rw [zs_cpy_4 f1_2 f1_8 (by rw [f4_2, f4_8, hR.2.2.2.2.2]; exact s1), f4_8]; exact ⟨rfl, sf_OK_copy hI hR f3_2 f2_2 f2_8 f5_8 e1 e2 e3 e4 e5 e6 e7⟩, by rw [ht]; exact hP, hD⟩, hS.F ht⟩) hS.2.2 dX2_copy_79
    · obtain ⟨q1_8, q2_8⟩ := h_8
      subst q1_8
      have f1_8 := sf_zr_none hI hR q2_8
      refine lv_astoreN (lv' := [(4, .null), (3, .ref a_2), (0, .ref a0), (1, .int (nI k_2)), (2, .int src)]) hx hb dX2_copy_11 hl (by decide) rfl (fun ls hl => ?_)
      refine lv_aload_n hx hb dX2_copy_13 rfl (lv_at hl 1 rfl) ?_
      refine lv_ifnull hx hb dX2_copy_14 ?_
      refine lv_aloadN hx hb dX2_copy_17 (lv_at hl 0 rfl) ?_
      refine lv_ifnonnullN hx hb dX2_copy_19 ?_
      refine lv_iconst (v := -1) hx hb dX2_copy_22 (by decide) ?_
      exact W.iret (v := -1) hx hb hr (fun t ht hW => ⟨⟨_, (LP, gb, md, ct, tb, nm, tk, oc, en, fs, la, g, st, ln, bf, af), rfl, by rw [zs_cpy_2 f1_8]; exact ⟨rfl, cs, fr, hI, hR⟩, by rw [ht]; exact hP, hD⟩, hS.F ht⟩) hS.2.2 dX2_copy_23
  · obtain ⟨q1_2, q2_2⟩ := h_2
    subst q1_2
    have f1_2 := sf_zr_none hI hR q2_2
    refine lv_astore_nN (lv' := [(3, .null), (0, .ref a0), (1, .int row), (2, .int src)]) hx hb dX2_copy_5 rfl hl (by decide) rfl (fun ls hl => ?_)
    refine lv_aload_n hx hb dX2_copy_6 rfl (lv_at hl 1 rfl) ?_
    refine lv_iload_n hx hb dX2_copy_7 rfl (lv_at hl 3 rfl) ?_
    refine va_csq (va_Run.run (sf_runV (b := a0) (As := [.int src]) (rest := []) ⟨hx, hb, hml, hown, hts⟩ sf_has (c_find l dC dI a0 a1 a2 a3 cB cT LP gb md ct tb nm tk oc en fs la g st ln bf af _ _ (sf_CI_find hI).1 (sf_CI_find hI).2.1 (sf_CI_find hI).2.2) k_X2_59 ⟨sf_blind, va_recv hK hP (ci := 2) (q0 := 0) rfl rfl, sf_preU hP hK hD hN⟩ rfl hl.1 (Nat.le_of_ble_eq_true rfl) ⟨(Nat.le_of_ble_eq_true rfl), (Nat.le_of_ble_eq_true rfl)⟩ ⟨rfl, rfl⟩ ⟨Nat.zero_le _, Nat.zero_le _⟩ dX2_copy_8)) (fun r_8 h_8 => ?_)
    rcases h_8 with h_8 | h_8
    · obtain ⟨k_8, a_8, q1_8, q2_8, q3_8, q4_8, q5_8, q6_8⟩ := h_8
      subst q2_8
      subst q6_8
      obtain ⟨f1_8, f2_8, f3_8, f4_8, f5_8, f6_8, f7_8⟩ := sf_zr_some hI hR q1_8 q3_8 q5_8
      have hl : lv_has ls 5 [(3, .null), (0, .ref a0), (1, .int row), (2, .int (nI k_8))] := hl
      refine lv_astore (lv' := [(4, .ref a_8), (3, .null), (0, .ref a0), (1, .int row), (2, .int (nI k_8))]) hx hb dX2_copy_11 hl (by decide) rfl (fun ls hl => ?_)
      refine lv_aload_nN hx hb dX2_copy_13 rfl (lv_at hl 1 rfl) ?_
      refine lv_ifnullN (tgt := 22) hx hb dX2_copy_14 (by decide) ?_
      refine lv_iconst (v := -1) hx hb dX2_copy_22 (by decide) ?_
      exact W.iret (v := -1) hx hb hr (fun t ht hW => ⟨⟨_, (LP, gb, md, ct, tb, nm, tk, oc, en, fs, la, g, st, ln, bf, af), rfl, by rw [zs_cpy_1 f1_2]; exact ⟨rfl, cs, fr, hI, hR⟩, by rw [ht]; exact hP, hD⟩, hS.F ht⟩) hS.2.2 dX2_copy_23
    · obtain ⟨q1_8, q2_8⟩ := h_8
      subst q1_8
      have f1_8 := sf_zr_none hI hR q2_8
      refine lv_astoreN (lv' := [(4, .null), (3, .null), (0, .ref a0), (1, .int row), (2, .int src)]) hx hb dX2_copy_11 hl (by decide) rfl (fun ls hl => ?_)
      refine lv_aload_nN hx hb dX2_copy_13 rfl (lv_at hl 1 rfl) ?_
      refine lv_ifnullN (tgt := 22) hx hb dX2_copy_14 (by decide) ?_
      refine lv_iconst (v := -1) hx hb dX2_copy_22 (by decide) ?_
      exact W.iret (v := -1) hx hb hr (fun t ht hW => ⟨⟨_, (LP, gb, md, ct, tb, nm, tk, oc, en, fs, la, g, st, ln, bf, af), rfl, by rw [zs_cpy_1 f1_2]; exact ⟨rfl, cs, fr, hI, hR⟩, by rw [ht]; exact hP, hD⟩, hS.F ht⟩) hS.2.2 dX2_copy_23
set_option maxHeartbeats 4000000 in
set_option maxRecDepth 100000 in
/-- give(row) -/
theorem c_give (l : Launch) (dC : Nat → ClassId) (dI : Nat → Nat → Nat) (a0 a1 a2 a3 : Nat) (cB cT : ClassId) (LP : List Nat) (gb : Option Nat) (md ct : Nat) (tb : Nat → Option Nat) (nm tk : Nat → Nat) (oc en : Nat) (fs la : Option Nat) (g : Nat → Int32) (st ln : Nat → Nat) (bf af : Nat → Option Nat) (sz : Nat) (z : sf_Z) (cs fr : List Nat) (hI : sf_CI LP gb md ct tb nm tk oc en fs la g st ln bf af cs fr) (hR : sf_CR LP nm tk ln st g cs fr ct oc z) (row : Int32) : Met l yX2_give wsX2_give ({ frames := 2, cells := 0, slots := 0, locals := 60 } : Room) (sf_Pre (dC, dI) vwCl [(cB, .byte), (cT, .object "ByteShelf$Row")] [.ref a0, .int row] (sf_w a0 a1 a2 a3 cB cT LP gb md ct tb nm tk oc en fs la g st ln bf af) sz) (va_Qi (fun (r : Int32) (u : sf_Sx) => r = (zs_give z row).1 ∧ sf_OKu u (zs_give z row).2) (sf_E (dC, dI) vwCl (va_A (sf_w a0 a1 a2 a3 cB cT LP gb md ct tb nm tk oc en fs la g st ln bf af) sz) (fun (u : sf_Sx) => sf_w a0 a1 a2 a3 cB cT u.1 u.2.1 u.2.2.1 u.2.2.2.1 u.2.2.2.2.1 u.2.2.2.2.2.1 u.2.2.2.2.2.2.1 u.2.2.2.2.2.2.2.1 u.2.2.2.2.2.2.2.2.1 u.2.2.2.2.2.2.2.2.2.1 u.2.2.2.2.2.2.2.2.2.2.1 u.2.2.2.2.2.2.2.2.2.2.2.1 u.2.2.2.2.2.2.2.2.2.2.2.2.1 u.2.2.2.2.2.2.2.2.2.2.2.2.2.1 u.2.2.2.2.2.2.2.2.2.2.2.2.2.2.1 u.2.2.2.2.2.2.2.2.2.2.2.2.2.2.2)) (va_A (sf_w a0 a1 a2 a3 cB cT LP gb md ct tb nm tk oc en fs la g st ln bf af) sz)) 0 0 (va_A (sf_w a0 a1 a2 a3 cB cT LP gb md ct tb nm tk oc en fs la g st ln bf af) sz) := by
  refine Met.ofW (cc := cX2_give) (maxL := 3) (ret := (some .boolean)) (by decide) rfl ?_
  intro p e s m args below meth c s₁ B hml hv
  obtain ⟨rfl, hsz, hP, hK, hD0, hN⟩ := hv
  have hx := B.exec
  have hb := B.bytes
  have hr := B.returns
  have hts := atoms_spec (ws := wsX2_give) B.pre
  have hown : s.vm.findClass RX2 = some m.cls := findClass_of_methodNamed B.named
  have hlocks := B.notSynchronized
  subst hsz
  have hD := hD0.self (sz := s.heap.size)
  generalize hAe : va_A (sf_w a0 a1 a2 a3 cB cT LP gb md ct tb nm tk oc en fs la g st ln bf af) s.heap.size = A at hD ⊢
  have hA : ∀ q : Nat, s.heap.size ≤ q → A q := fun q h => by rw [← hAe]; exact Or.inr h
  have hS : va_S A s.heap s.heap [] := va_S.rf
  have hl := lv_entry ([.ref a0, .int row]) (n := 3) (Nat.le_of_ble_eq_true rfl)
  rw [lg_entry_eq]
  generalize (lg_sl ([.ref a0, .int row]) ++ List.replicate (3 - (lg_sl ([.ref a0, .int row])).length) Slot.unset).toArray = ls at hl ⊢
  have hl : lv_has ls 3 [(0, .ref a0), (1, .int row)] := hl
  refine lv_aload_n hx hb dX2_give_0 rfl (lv_at hl 0 rfl) ?_
  refine lv_iload_n hx hb dX2_give_1 rfl (lv_at hl 1 rfl) ?_
  refine va_csq (va_Run.run (sf_runV (b := a0) (As := [.int row]) (rest := []) ⟨hx, hb, hml, hown, hts⟩ sf_has (c_find l dC dI a0 a1 a2 a3 cB cT LP gb md ct tb nm tk oc en fs la g st ln bf af _ _ (sf_CI_find hI).1 (sf_CI_find hI).2.1 (sf_CI_find hI).2.2) k_X2_59 ⟨sf_blind, va_recv hK hP (ci := 2) (q0 := 0) rfl rfl, sf_preU hP hK hD hN⟩ rfl hl.1 (Nat.le_of_ble_eq_true rfl) ⟨(Nat.le_of_ble_eq_true rfl), (Nat.le_of_ble_eq_true rfl)⟩ ⟨rfl, rfl⟩ ⟨Nat.zero_le _, Nat.zero_le _⟩ dX2_give_2)) (fun r_2 h_2 => ?_)
  rcases h_2 with h_2 | h_2
  · obtain ⟨k_2, a_2, q1_2, q2_2, q3_2, q4_2, q5_2, q6_2⟩ := h_2
    subst q2_2
    subst q6_2
    obtain ⟨f1_2, f2_2, f3_2, f4_2, f5_2, f6_2, f7_2⟩ := sf_zr_some hI hR q1_2 q3_2 q5_2
    have hl : lv_has ls 3 [(0, .ref a0), (1, .int (nI k_2))] := hl
    refine lv_astore_n (lv' := [(2, .ref a_2), (0, .ref a0), (1, .int (nI k_2))]) hx hb dX2_give_5 rfl hl (by decide) rfl (fun ls hl => ?_)
    refine lv_aload_n hx hb dX2_give_6 rfl (lv_at hl 0 rfl) ?_
    refine lv_ifnonnull (tgt := 12) hx hb dX2_give_7 (by decide) ?_
    refine lv_aload_n hx hb dX2_give_12 rfl (lv_at hl 1 rfl) ?_
    refine va_get (D := (dC, dI)) (ci := 2) (v := .ref a1) (C := RX2) (T := TX2) (N := 5) hx hb hts sf_inX2 hown hK hP 0 rfl rfl 0 (by decide) (hts _ (sf_mem fl_X2_10 rfl)) (fun _ h9 => h9) rfl dX2_give_13 ?_
    refine lv_aload_n hx hb dX2_give_16 rfl (lv_at hl 0 rfl) ?_
    obtain ⟨l1, r1, rfl⟩ := List.append_of_mem f2_2
    have hct : 1 ≤ ct := by rw [hI.2.2.2.2.2.2.2.2.2.2]; simp; omega
    refine sf_cv (sf_runV (b := a1) (As := [.ref a_2]) (rest := []) ⟨hx, hb, hml, hown, hts⟩ sf_has (c_lift l dC dI a0 a1 a2 a3 cB cT LP gb md ct tb nm tk oc en fs la g st ln bf af _ l1 r1 a_2 hI.1) k_X2_63 ⟨sf_blind, va_recv hK hP (ci := 0) (q0 := 1) rfl rfl, sf_preU hP hK hD hN⟩ rfl hl.1 (Nat.le_of_ble_eq_true rfl) ⟨(Nat.le_of_ble_eq_true rfl), (Nat.le_of_ble_eq_true rfl)⟩ ⟨rfl, rfl⟩ ⟨Nat.zero_le _, Nat.zero_le _⟩ dX2_give_17) hD hS hA (fun u_17 H locs h_17 hP hD hS => ?_)
    have hP : va_P (dC, dI) vwCl (sf_w a0 a1 a2 a3 cB cT LP gb md ct tb nm tk (oc - sf_P (ln a_2)) en (sf_pk (bf a_2) (af a_2) fs) (sf_pk (af a_2) (bf a_2) la) g st ln (sf_unA bf (af a_2) (bf a_2)) (sf_unA af (bf a_2) (af a_2))) H := hP
    have hD : va_D A (sf_w a0 a1 a2 a3 cB cT LP gb md ct tb nm tk (oc - sf_P (ln a_2)) en (sf_pk (bf a_2) (af a_2) fs) (sf_pk (af a_2) (bf a_2) la) g st ln (sf_unA bf (af a_2) (bf a_2)) (sf_unA af (bf a_2) (af a_2))) := hD
    refine lv_aload_n hx hb dX2_give_20 rfl (lv_at hl 0 rfl) ?_
    refine lv_iconst (v := nI 0) hx hb dX2_give_21 (by decide) ?_
    refine sf_rput (D := (dC, dI)) (ci := 1) (v := .int (nI 0)) (ty := .boolean) (C := RX1) (T := TX1) (N := 6) hx hb hts sf_inX1 tyX1 tyX1_ok nmX1 hown hK hP hD hS q4_2 rfl rfl 1 (by decide) (hts _ (sf_mem fl_X2_52 rfl)) (fun _ h9 => h9) rfl (by decide +kernel) rfl rfl (Nat.le_of_ble_eq_true rfl) (sf_rw_tk 0) dX2_give_22 (fun H locs hP hD hS => ?_)
    have hP : va_P (dC, dI) vwCl (sf_w a0 a1 a2 a3 cB cT LP gb md ct tb nm (va_up tk a_2 0) (oc - sf_P (ln a_2)) en (sf_pk (bf a_2) (af a_2) fs) (sf_pk (af a_2) (bf a_2) la) g st ln (sf_unA bf (af a_2) (bf a_2)) (sf_unA af (bf a_2) (af a_2))) H := hP
    have hD : va_D A (sf_w a0 a1 a2 a3 cB cT LP gb md ct tb nm (va_up tk a_2 0) (oc - sf_P (ln a_2)) en (sf_pk (bf a_2) (af a_2) fs) (sf_pk (af a_2) (bf a_2) la) g st ln (sf_unA bf (af a_2) (bf a_2)) (sf_unA af (bf a_2) (af a_2))) := hD
    refine lv_aload_n hx hb dX2_give_25 rfl (lv_at hl 0 rfl) ?_
    refine lv_aload_n hx hb dX2_give_26 rfl (lv_at hl 1 rfl) ?_
    refine va_get (D := (dC, dI)) (ci := 2) (v := va_rf gb) (C := RX2) (T := TX2) (N := 5) hx hb hts sf_inX2 hown hK hP 0 rfl rfl 2 (by decide) (hts _ (sf_mem fl_X2_22 rfl)) (fun _ h9 => h9) rfl dX2_give_27 ?_
    refine sf_rput (D := (dC, dI)) (ci := 1) (v := va_rf gb) (ty := .object "ByteShelf$Row") (C := RX1) (T := TX1) (N := 6) hx hb hts sf_inX1 tyX1 tyX1_ok nmX1 hown hK hP hD hS q4_2 rfl rfl 5 (by decide) (hts _ (sf_mem fl_X2_67 rfl)) (fun _ h9 => h9) rfl (by decide +kernel) (sf_nq _) (sf_fq _) (Nat.le_of_ble_eq_true rfl) (sf_rw_af gb) dX2_give_30 (fun H locs hP hD hS => ?_)
    have hP : va_P (dC, dI) vwCl (sf_w a0 a1 a2 a3 cB cT LP gb md ct tb nm (va_up tk a_2 0) (oc - sf_P (ln a_2)) en (sf_pk (bf a_2) (af a_2) fs) (sf_pk (af a_2) (bf a_2) la) g st ln (sf_unA bf (af a_2) (bf a_2)) (va_up (sf_unA af (bf a_2) (af a_2)) a_2 gb)) H := hP
    have hD : va_D A (sf_w a0 a1 a2 a3 cB cT LP gb md ct tb nm (va_up tk a_2 0) (oc - sf_P (ln a_2)) en (sf_pk (bf a_2) (af a_2) fs) (sf_pk (af a_2) (bf a_2) la) g st ln (sf_unA bf (af a_2) (bf a_2)) (va_up (sf_unA af (bf a_2) (af a_2)) a_2 gb)) := hD
    refine lv_aload_n hx hb dX2_give_33 rfl (lv_at hl 1 rfl) ?_
    refine lv_aload_n hx hb dX2_give_34 rfl (lv_at hl 0 rfl) ?_
    refine va_put (D := (dC, dI)) (ci := 2) (v := .ref a_2) (ty := .object "ByteShelf$Row") (C := RX2) (T := TX2) (N := 5) hx hb hts sf_inX2 tyX2 tyX2_ok nmX2 hown hK hP hD hS 0 rfl rfl 2 (by decide) (hts _ (sf_mem fl_X2_22 rfl)) (fun _ h9 => h9) rfl (by decide +kernel) rfl rfl (Nat.le_of_ble_eq_true rfl) dX2_give_35 (fun H locs hP hD hS => ?_)
    have hP : va_P (dC, dI) vwCl (sf_w a0 a1 a2 a3 cB cT LP (some a_2) md ct tb nm (va_up tk a_2 0) (oc - sf_P (ln a_2)) en (sf_pk (bf a_2) (af a_2) fs) (sf_pk (af a_2) (bf a_2) la) g st ln (sf_unA bf (af a_2) (bf a_2)) (va_up (sf_unA af (bf a_2) (af a_2)) a_2 gb)) H := hP
    have hD : va_D A (sf_w a0 a1 a2 a3 cB cT LP (some a_2) md ct tb nm (va_up tk a_2 0) (oc - sf_P (ln a_2)) en (sf_pk (bf a_2) (af a_2) fs) (sf_pk (af a_2) (bf a_2) la) g st ln (sf_unA bf (af a_2) (bf a_2)) (va_up (sf_unA af (bf a_2) (af a_2)) a_2 gb)) := hD
    refine lv_aload_n hx hb dX2_give_38 rfl (lv_at hl 1 rfl) ?_
    refine lv_dup hx hb dX2_give_39 rfl ?_
    refine va_get (D := (dC, dI)) (ci := 2) (v := .int (nI ct)) (C := RX2) (T := TX2) (N := 5) hx hb hts sf_inX2 hown hK hP 0 rfl rfl 4 (by decide) (hts _ (sf_mem fl_X2_30 rfl)) (fun _ h9 => h9) rfl dX2_give_40 ?_
    refine lv_iconst (v := nI 1) hx hb dX2_give_43 (by decide) ?_
    refine sf_isub hx hb (by omega) dX2_give_44 ?_
    refine va_put (D := (dC, dI)) (ci := 2) (v := .int (nI (ct - 1))) (ty := .int) (C := RX2) (T := TX2) (N := 5) hx hb hts sf_inX2 tyX2 tyX2_ok nmX2 hown hK hP hD hS 0 rfl rfl 4 (by decide) (hts _ (sf_mem fl_X2_30 rfl)) (fun _ h9 => h9) rfl (by decide +kernel) rfl rfl (Nat.le_of_ble_eq_true rfl) dX2_give_45 (fun H locs hP hD hS => ?_)
    have hP : va_P (dC, dI) vwCl (sf_w a0 a1 a2 a3 cB cT LP (some a_2) md (ct - 1) tb nm (va_up tk a_2 0) (oc - sf_P (ln a_2)) en (sf_pk (bf a_2) (af a_2) fs) (sf_pk (af a_2) (bf a_2) la) g st ln (sf_unA bf (af a_2) (bf a_2)) (va_up (sf_unA af (bf a_2) (af a_2)) a_2 gb)) H := hP
    have hD : va_D A (sf_w a0 a1 a2 a3 cB cT LP (some a_2) md (ct - 1) tb nm (va_up tk a_2 0) (oc - sf_P (ln a_2)) en (sf_pk (bf a_2) (af a_2) fs) (sf_pk (af a_2) (bf a_2) la) g st ln (sf_unA bf (af a_2) (bf a_2)) (va_up (sf_unA af (bf a_2) (af a_2)) a_2 gb)) := hD
    refine lv_iconst (v := nI 1) hx hb dX2_give_48 (by decide) ?_
    exact W.zret (v := nI 1) hx hb hr (by decide) (fun t ht hW => ⟨⟨_, (LP, (some a_2), md, ct - 1, tb, nm, (va_up tk a_2 0), (oc - sf_P (ln a_2)), en, (sf_pk (bf a_2) (af a_2) fs), (sf_pk (af a_2) (bf a_2) la), g, st, ln, (sf_unA bf (af a_2) (bf a_2)), (va_up (sf_unA af (bf a_2) (af a_2)) a_2 gb)), rfl, by rw [zs_give_2 f1_2]; exact ⟨rfl, sf_OK_give hI hR f3_2⟩, by rw [ht]; exact hP, hD⟩, hS.F ht⟩) hS.2.2 dX2_give_49
  · obtain ⟨q1_2, q2_2⟩ := h_2
    subst q1_2
    have f1_2 := sf_zr_none hI hR q2_2
    refine lv_astore_nN (lv' := [(2, .null), (0, .ref a0), (1, .int row)]) hx hb dX2_give_5 rfl hl (by decide) rfl (fun ls hl => ?_)
    refine lv_aload_nN hx hb dX2_give_6 rfl (lv_at hl 0 rfl) ?_
    refine lv_ifnonnullN hx hb dX2_give_7 ?_
    refine lv_iconst (v := nI 0) hx hb dX2_give_10 (by decide) ?_
    exact W.zret (v := nI 0) hx hb hr (by decide) (fun t ht hW => ⟨⟨_, (LP, gb, md, ct, tb, nm, tk, oc, en, fs, la, g, st, ln, bf, af), rfl, by rw [zs_give_1 f1_2]; exact ⟨rfl, cs, fr, hI, hR⟩, by rw [ht]; exact hP, hD⟩, hS.F ht⟩) hS.2.2 dX2_give_11
