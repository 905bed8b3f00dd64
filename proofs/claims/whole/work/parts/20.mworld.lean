/-! the world of the reference, and what it stands for -/
abbrev mw_w (b0 b1 b2 b3 b4 : Nat) (d1 d2 d3 d4 : ClassId) (us nu bm tn : Nat) (g za : Nat → Int32) (ss bk : Nat → Nat) : va_W :=
  [(b0, .inr (3, [.ref b1, .int (nI us), .ref b2, .ref b3, .int (nI nu), .ref b4, .int (nI bm), .int (nI tn)])), (b1, .inl (d1, 400000, .inl g)), (b2, .inl (d2, 20000, .inl (fun k => nI (ss k)))), (b3, .inl (d3, 20000, .inl za)), (b4, .inl (d4, 20000, .inl (fun k => nI (bk k))))]
theorem mw_updN {f : Nat → Nat} {i v : Nat} : upd (fun k => nI (f k)) i (nI v) = fun k => nI (va_up f i v k) := by
  funext k
  by_cases h : k = i <;> simp [upd, va_up, h]
section MJ
variable {p : Program} {l : Launch} {e : Env} {R : Room} {s : State} {m : MethodId} {args : Array Value} {below : List Frame} {meth : Method} {c : Code} {H : Heap} {locs : List Loc} {cells slots : Nat} {Q : State → Prop} {pc : Nat} {ls : Array Slot} {st0 : List Value}
/-- paths that meet again -/
theorem sf_meet (pc2 : Nat) (I : Heap → List Loc → Array Slot → Prop) (tail : ∀ (H : Heap) (locs : List Loc) (ls : Array Slot), I H locs ls → W p l e R s m args below meth c H locs cells slots Q (F0 m pc2 ls [])) (body : (∀ (H : Heap) (locs : List Loc) (ls : Array Slot), I H locs ls → W p l e R s m args below meth c H locs cells slots Q (F0 m pc2 ls [])) → W p l e R s m args below meth c H locs cells slots Q (F0 m pc ls st0)) : W p l e R s m args below meth c H locs cells slots Q (F0 m pc ls st0) := body tail
end MJ
/-- the sum of f below n -/
def mw_sum (f : Nat → Nat) : Nat → Nat
  | 0 => 0
  | n + 1 => mw_sum f n + f n
theorem mw_sum_congr {f h : Nat → Nat} : ∀ {n : Nat}, (∀ k, k < n → f k = h k) → mw_sum f n = mw_sum h n
  | 0, _ => rfl
  | n + 1, q => by
    show mw_sum f n + f n = mw_sum h n + h n
    rw [mw_sum_congr (fun k hk => q k (by omega)), q n (by omega)]
theorem mw_sum_le {f h : Nat → Nat} : ∀ {n : Nat}, (∀ k, k < n → f k ≤ h k) → mw_sum f n ≤ mw_sum h n
  | 0, _ => Nat.le_refl _
  | n + 1, q => by
    show mw_sum f n + f n ≤ mw_sum h n + h n
    have := mw_sum_le (fun k hk => q k (by omega) : ∀ k, k < n → f k ≤ h k)
    have := q n (by omega)
    omega
theorem mw_sum_up {f : Nat → Nat} {k v : Nat} : ∀ {n : Nat}, k < n → mw_sum (va_up f k v) n + f k = mw_sum f n + v
  | n + 1, h => by
    show mw_sum (va_up f k v) n + va_up f k v n + f k = mw_sum f n + f n + v
    by_cases q : k = n
    · subst q
      rw [va_up_self, mw_sum_congr (h := f) (fun j hj => va_up_ne _ _ (by omega))]
      omega
    · rw [va_up_ne _ _ (by omega)]
      have := mw_sum_up (f := f) (v := v) (show k < n by omega)
      omega
/-- the layout: rows with bytes lie apart, below us; us is their bytes' number -/
def mw_L (us nu : Nat) (ln ss : Nat → Nat) : Prop := us = mw_sum ln nu ∧ (∀ k, k < nu → 0 < ln k → ss k + ln k ≤ us) ∧ ∀ j k, j < nu → k < nu → j ≠ k → 0 < ln j → 0 < ln k → ss j + ln j ≤ ss k ∨ ss k + ln k ≤ ss j
/-- the bytes behind a change at e by n - old -/
def mw_B (g g2 : Nat → Int32) (e us n old : Nat) : Prop := (n ≤ old ∧ ∀ p, g2 p = if e + n - old ≤ p ∧ p < us + n - old then g (p + (old - n)) else g p) ∨ (old ≤ n ∧ ∀ p, g2 p = if e + (n - old) ≤ p ∧ p < us + (n - old) then g (p - (n - old)) else if e ≤ p ∧ p < e + (n - old) then 0 else g p)
/-- the starts behind a shift -/
def mw_sh (nu n old b : Nat) (ln ss : Nat → Nat) : Nat → Nat := fun k => if k < nu ∧ 0 < ln k ∧ b < ss k then ss k + n - old else ss k
/-- a change of row k from ln k to n bytes -/
theorem mw_change {us nu n k : Nat} {ln ss : Nat → Nat} {g g2 : Nat → Int32} (hL : mw_L us nu ln ss) (hk : k < nu) (b : Nat) (hb : b = if ln k = 0 then us else ss k) (hB : mw_B g g2 (b + ln k) us n (ln k)) (hF : sb_Fit g) (hus : us ≤ 400000) :
    (∀ x, x < nu → 0 < ln x → b < va_up ss k b x → x ≠ k ∧ b + ln k ≤ ss x) ∧ mw_L (us + n - ln k) nu (va_up ln k n) (mw_sh nu n (ln k) b ln (va_up ss k b)) ∧ mw_sh nu n (ln k) b ln (va_up ss k b) k = b ∧
    (∀ j, j < nu → j ≠ k → ∀ i, i < ln j → g2 (mw_sh nu n (ln k) b ln (va_up ss k b) j + i) = g (ss j + i)) ∧ (∀ i, i < n → g2 (b + i) = if i < ln k then g (ss k + i) else 0) ∧ sb_Fit g2 := by
  obtain ⟨h1, h2, h3⟩ := hL
  have hbk : b + ln k ≤ us := by
    rw [hb]
    split
    · omega
    · exact h2 k hk (by omega)
  have hout : ∀ x, x < nu → x ≠ k → 0 < ln x → (b + ln k ≤ ss x ∧ ss x + ln x ≤ us) ∨ (ss x + ln x ≤ b) := by
    intro x hx hne hl
    have q := h2 x hx hl
    rw [hb]
    split
    · exact Or.inr q
    · rcases h3 x k hx hk hne hl (by omega) with e | e
      · exact Or.inr e
      · exact Or.inl ⟨e, q⟩
  have hshk : mw_sh nu n (ln k) b ln (va_up ss k b) k = b := by
    unfold mw_sh
    rw [va_up_self, if_neg (by omega)]
  have hshx : ∀ x, x < nu → x ≠ k → 0 < ln x → (b + ln k ≤ ss x ∧ mw_sh nu n (ln k) b ln (va_up ss k b) x = ss x + n - ln k) ∨ (ss x + ln x ≤ b ∧ mw_sh nu n (ln k) b ln (va_up ss k b) x = ss x) := by
    intro x hx hne hl
    unfold mw_sh
    rw [va_up_ne _ _ hne]
    rcases hout x hx hne hl with ⟨e, -⟩ | e
    · by_cases q : b < ss x
      · rw [if_pos ⟨hx, hl, q⟩]; exact Or.inl ⟨e, rfl⟩
      · have e0 : ln k = 0 := by omega
        rw [hb, if_pos e0] at e
        have := h2 x hx hl
        omega
    · rw [if_neg (by omega)]; exact Or.inr ⟨e, rfl⟩
  have hsum := mw_sum_up (f := ln) (v := n) hk
  refine ⟨?_, ⟨?_, ?_, ?_⟩, hshk, ?_, ?_, ?_⟩
  · intro x hx hl hlt
    have hne : x ≠ k := fun q => by rw [q, va_up_self] at hlt; omega
    rw [va_up_ne _ _ hne] at hlt
    refine ⟨hne, ?_⟩
    rcases hout x hx hne hl with e | e
    · exact e.1
    · omega
  · omega
  · intro x hx hl
    by_cases q : x = k
    · subst q
      rw [hshk, va_up_self]
      omega
    · rw [va_up_ne _ _ q] at hl ⊢
      have q2 := h2 x hx hl
      rcases hshx x hx q hl with ⟨e, e2⟩ | ⟨e, e2⟩ <;> rw [e2] <;> omega
  · intro x y hx hy hne hlx hly
    by_cases qx : x = k
    · subst qx
      rw [va_up_ne _ _ (Ne.symm hne)] at hly
      rw [hshk, va_up_self, va_up_ne _ _ (Ne.symm hne)]
      rcases hshx y hy (Ne.symm hne) hly with ⟨e, e2⟩ | ⟨e, e2⟩ <;> rw [e2] <;> omega
    · by_cases qy : y = k
      · subst qy
        rw [va_up_ne _ _ hne] at hlx
        rw [hshk, va_up_self, va_up_ne _ _ hne]
        rcases hshx x hx hne hlx with ⟨e, e2⟩ | ⟨e, e2⟩ <;> rw [e2] <;> omega
      · rw [va_up_ne _ _ qx] at hlx
        rw [va_up_ne _ _ qy] at hly
        rw [va_up_ne _ _ qx, va_up_ne _ _ qy]
        have q := h3 x y hx hy hne hlx hly
        rcases hshx x hx qx hlx with ⟨e, e2⟩ | ⟨e, e2⟩ <;> rcases hshx y hy qy hly with ⟨e3, e4⟩ | ⟨e3, e4⟩ <;> rw [e2, e4] <;> omega
  · intro j hj hne i hi
    have q2 := h2 j hj (by omega)
    rcases hshx j hj hne (by omega) with ⟨e, e2⟩ | ⟨e, e2⟩
    · rw [e2]
      rcases hB with ⟨hn, hB⟩ | ⟨hn, hB⟩
      · rw [hB, if_pos (by omega)]
        congr 1
        omega
      · rw [hB, if_pos (by omega)]
        congr 1
        omega
    · rw [e2]
      rcases hB with ⟨hn, hB⟩ | ⟨hn, hB⟩
      · rw [hB, if_neg (by omega)]
      · rw [hB, if_neg (by omega), if_neg (by omega)]
  · intro i hi
    by_cases q : i < ln k
    · have hbs : b = ss k := by rw [hb, if_neg (by omega)]
      rw [if_pos q, ← hbs]
      rcases hB with ⟨hn, hB⟩ | ⟨hn, hB⟩
      · rw [hB, if_neg (by omega)]
      · rw [hB, if_neg (by omega), if_neg (by omega)]
    · rw [if_neg q]
      rcases hB with ⟨hn, hB⟩ | ⟨hn, hB⟩
      · omega
      · rw [hB, if_neg (by omega), if_pos (by omega)]
  · intro j
    rcases hB with ⟨hn, hB⟩ | ⟨hn, hB⟩
    · rw [hB]; split <;> exact hF _
    · rw [hB]
      split
      · exact hF _
      · split
        · decide
        · exact hF _
