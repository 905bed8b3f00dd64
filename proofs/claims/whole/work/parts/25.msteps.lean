/-! steps of the reference's state (pure) -/
abbrev mw_S : Type := Nat × Nat × Nat × Nat × (Nat → Int32) × (Nat → Int32) × (Nat → Nat) × (Nat → Nat)
def mw_Ru (u : mw_S) (z : sf_Z) : Prop := mw_R u.1 u.2.1 u.2.2.1 u.2.2.2.1 u.2.2.2.2.1 u.2.2.2.2.2.1 u.2.2.2.2.2.2.1 u.2.2.2.2.2.2.2 z
section MS
variable {us nu bm tn : Nat} {g za : Nat → Int32} {ss bk : Nat → Nat} {z : sf_Z}
theorem mw_room {k n : Nat} (h : mw_R us nu bm tn g za ss bk z) (hk : k < nu) (hroom : sf_P n ≤ sf_P (mln z k) ∨ zOc z + sf_P n ≤ 400000) : us + n ≤ 400000 + mln z k := by
  obtain ⟨h1, h2, h3, h4, h5, h6, h7, h8, h9, h10, h11, h12, h13⟩ := h
  have e1 := mw_sum_up (f := mln z) (v := n) hk
  have e2 := mw_sum_up (f := fun k => sf_P (mln z k)) (v := sf_P n) hk
  have e3 := mw_sum_le (f := va_up (mln z) k n) (h := va_up (fun k => sf_P (mln z k)) k (sf_P n)) (n := nu) (fun j _ => by
    by_cases q : j = k
    · rw [q, va_up_self, va_up_self]; exact sf_P_ge n
    · rw [va_up_ne _ _ q, va_up_ne _ _ q]; exact sf_P_ge _)
  rw [← h11] at e2
  rw [← h8.1] at e1
  try dsimp only at e2
  have e4 := sf_P_ge n
  have e5 := sf_P_ge (mln z k)
  omega
theorem mw_R_fill {g2 : Nat → Int32} {k i0 n0 : Nat} {d : Int32} (h : mw_R us nu bm tn g za ss bk z) (hk : k < nu) (tk1 : zTk z k = 1) (hF : sb_Fit g2) (hn : i0 + n0 ≤ zLn z k) (q : ∀ p, g2 p = if ss k + i0 ≤ p ∧ p < ss k + i0 + n0 then zfb d (p - (ss k + i0)) else g p) :
    mw_R us nu bm tn g2 za ss bk (zput z k (fun j => if i0 ≤ j ∧ j < i0 + n0 then zfb d (j - i0) else zBy z k j)) := by
  refine mw_R_bytes h hF (fun x hx tx hne i hi => ?_) (fun i hi => ?_)
  · rw [q, if_neg]
    intro e
    exact mw_apart h hk hx tk1 tx hne hi (b := ss x + i - ss k) (by omega) (by omega)
  · rw [q]
    by_cases e : i0 ≤ i ∧ i < i0 + n0
    · rw [if_pos e, if_pos (by omega), show ss k + i - (ss k + i0) = i - i0 by omega]
    · rw [if_neg e, if_neg (by omega)]
      exact h.2.2.2.2.2.2.2.2.1 k hk tk1 i hi
theorem mw_R_copy {us' tn' k k2 : Nat} {f1 g2 g3 za' : Nat → Int32} {ss2 : Nat → Nat} (h : mw_R us nu bm tn g za ss bk z) (hk : k < nu) (tk1 : zTk z k = 1) (hk2 : k2 < nu) (tk2 : zTk z k2 = 1)
    (hR2 : mw_R us' nu bm tn' g2 za' ss2 bk (zset z k (zLn z k2) f1)) (ho : ∀ j, j < nu → j ≠ k → ∀ i, i < mln z j → g2 (ss2 j + i) = g (ss j + i)) (hf : ∀ i, i < zLn z k2 → g2 (ss2 k + i) = if i < mln z k then g (ss k + i) else 0) (hF : sb_Fit g3) (q : ∀ x, g3 x = if ss2 k ≤ x ∧ x < ss2 k + zLn z k2 then g2 (ss2 k2 + (x - ss2 k)) else g2 x) :
    mw_R us' nu bm tn' g3 za' ss2 bk (zset z k (zLn z k2) (zBy z k2)) := by
  rw [← zput_zset (f1 := f1)]
  have h9 := h.2.2.2.2.2.2.2.2.1
  have elk : zLn (zset z k (zLn z k2) f1) k = zLn z k2 := va_up_self _ _ _
  refine mw_R_bytes hR2 hF (fun x hx tx hne i hi => ?_) (fun i hi => ?_)
  · rw [q, if_neg]
    intro e
    exact mw_apart hR2 hk hx tk1 tx hne hi (b := ss2 x + i - ss2 k) (by rw [elk]; omega) (by omega)
  · rw [elk] at hi
    rw [q, if_pos (by omega), Nat.add_sub_cancel_left, h9 k2 hk2 tk2 i hi]
    by_cases e : k2 = k
    · subst e
      rw [hf i hi, mln_1 tk1, if_pos hi]
    · rw [ho k2 hk2 e i (by rw [mln_1 tk2]; exact hi)]
theorem mw_cp_step {g2 g3 : Nat → Int32} {a b c : Nat} (q : ∀ x, g3 x = if a ≤ x ∧ x < a + c then g2 (b + (x - a)) else g2 x) (hr : g3 (b + c) = g2 (b + c)) : ∀ x, upd g3 (a + c) (g3 (b + c)) x = if a ≤ x ∧ x < a + (c + 1) then g2 (b + (x - a)) else g2 x := by
  intro x
  by_cases e : x = a + c
  · subst e
    rw [pk_us, if_pos (by omega), Nat.add_sub_cancel_left, hr]
  · rw [pk_un e, q x]
    by_cases e1 : a ≤ x ∧ x < a + c
    · rw [if_pos e1, if_pos (by omega)]
    · rw [if_neg e1, if_neg (by omega)]
/-- the layout with a number that has no bytes -/
theorem mw_L_0 {nu2 k : Nat} (h : mw_R us nu bm tn g za ss bk z) (hle : nu ≤ nu2) (hall : ∀ j, j < nu2 → j ≠ k → j < nu) (hk : k < nu2) (hkn : k < nu → zTk z k ≠ 1) (hlt : nu2 ≤ nu + 1) : mw_L us nu2 (va_up (mln z) k 0) ss ∧ mw_sum (va_up (fun j => sf_P (mln z j)) k 0) nu2 = zOc z ∧ ∀ r, r < nu2 → (upd za k (nI 0) r ≤ 0 ↔ va_up (mln z) k 0 r = 0) := by
  have hz := mw_hz h
  obtain ⟨h1, h2, h3, h4, h5, h6, h7, h8, h9, h10, h11, h12, h13⟩ := h
  have hs : ∀ f : Nat → Nat, (k < nu → f k = 0) → mw_sum (va_up f k 0) nu2 = mw_sum f nu := by
    intro f hf
    by_cases q : nu2 = nu
    · rw [q]
      refine mw_sum_congr (fun j hj => ?_)
      by_cases e : j = k
      · rw [e, va_up_self, hf (by omega)]
      · rw [va_up_ne _ _ e]
    · have e1 : nu2 = nu + 1 := by omega
      have e2 : k = nu := Classical.byContradiction fun e => by have := hall nu (by omega) (fun x => e x.symm); omega
      rw [e1, e2]
      show mw_sum (va_up f nu 0) nu + va_up f nu 0 nu = _
      rw [va_up_self, Nat.add_zero]
      exact mw_sum_congr (fun j hj => va_up_ne _ _ (by omega))
  have hk0 : k < nu → mln z k = 0 := fun q => mln_0 (hkn q)
  refine ⟨⟨?_, ?_, ?_⟩, ?_, ?_⟩
  · rw [hs _ hk0]; exact h8.1
  · intro j hj hl
    have q : j ≠ k := fun e => by rw [e, va_up_self] at hl; omega
    rw [va_up_ne _ _ q] at hl ⊢
    exact h8.2.1 j (hall j hj q) hl
  · intro i j hi hj hne hli hlj
    have q1 : i ≠ k := fun e => by rw [e, va_up_self] at hli; omega
    have q2 : j ≠ k := fun e => by rw [e, va_up_self] at hlj; omega
    rw [va_up_ne _ _ q1] at hli ⊢
    rw [va_up_ne _ _ q2] at hlj ⊢
    exact h8.2.2 i j (hall i hi q1) (hall j hj q2) hne hli hlj
  · rw [hs _ (fun q => by rw [hk0 q]; rfl), ← h11]
  · intro r hr
    by_cases q : r = k
    · rw [q, pk_us, va_up_self]
      exact ⟨fun _ => rfl, fun _ => by decide⟩
    · rw [pk_un q, va_up_ne _ _ q]
      exact hz r (hall r hr q)
theorem mw_R_0 : mw_Ru (0, 0, 0, 0, (fun _ => 0), (fun _ => 0), (fun _ => 0), (fun _ => 0)) sf_z0 := by
  refine ⟨rfl, Nat.zero_le _, rfl, fun x h => absurd h List.not_mem_nil, List.nodup_nil, fun k h => absurd h (Nat.not_lt_zero _), fun k h => absurd h (Nat.not_lt_zero _), ⟨rfl, fun k h => absurd h (Nat.not_lt_zero _), fun j k h => absurd h (Nat.not_lt_zero _)⟩, fun k h => absurd h (Nat.not_lt_zero _), rfl, rfl, Nat.zero_le _, sb_fit0⟩
end MS
