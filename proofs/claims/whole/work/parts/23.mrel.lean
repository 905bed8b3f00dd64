/-! the reference's state stands for a value (pure) -/
def mw_fr (bk : Nat → Nat) : Nat → List Nat
  | 0 => []
  | m + 1 => bk m :: mw_fr bk m
theorem mw_fr_len {bk : Nat → Nat} : ∀ {m : Nat}, (mw_fr bk m).length = m
  | 0 => rfl
  | m + 1 => by show (mw_fr bk m).length + 1 = m + 1; rw [mw_fr_len]
theorem mw_fr_congr {bk bk2 : Nat → Nat} : ∀ {m : Nat}, (∀ i, i < m → bk2 i = bk i) → mw_fr bk2 m = mw_fr bk m
  | 0, _ => rfl
  | m + 1, h => by
    show bk2 m :: mw_fr bk2 m = bk m :: mw_fr bk m
    rw [h m (by omega), mw_fr_congr (fun i hi => h i (by omega))]
theorem mw_fr_push {bk : Nat → Nat} {m v : Nat} : mw_fr (va_up bk m v) (m + 1) = v :: mw_fr bk m := by
  show va_up bk m v m :: mw_fr (va_up bk m v) m = _
  rw [va_up_self, mw_fr_congr (fun i hi => va_up_ne _ _ (by omega))]
/-- a row's bytes, none where it isn't taken -/
def mln (z : sf_Z) : Nat → Nat := fun k => if zTk z k = 1 then zLn z k else 0
theorem mln_1 {z : sf_Z} {k : Nat} (h : zTk z k = 1) : mln z k = zLn z k := if_pos h
theorem mln_0 {z : sf_Z} {k : Nat} (h : zTk z k ≠ 1) : mln z k = 0 := if_neg h
def mw_R (us nu bm tn : Nat) (g za : Nat → Int32) (ss bk : Nat → Nat) (z : sf_Z) : Prop :=
  nu = zMd z ∧ nu ≤ 20000 ∧ zFr z = mw_fr bk bm ∧ (∀ x, x ∈ zFr z → x < nu ∧ zTk z x = 0) ∧ (zFr z).Nodup ∧ (∀ k, k < nu → zTk z k = 1 → za k = nI (zLn z k) ∧ zLn z k ≤ 16384) ∧ (∀ k, k < nu → zTk z k ≠ 1 → za k = -1) ∧ mw_L us nu (mln z) ss ∧ (∀ k, k < nu → zTk z k = 1 → ∀ i, i < zLn z k → zBy z k i = g (ss k + i)) ∧ tn = zOc z ∧ zOc z = mw_sum (fun k => sf_P (mln z k)) nu ∧ zOc z ≤ 400000 ∧ sb_Fit g
section MR
variable {us nu bm tn : Nat} {g za : Nat → Int32} {ss bk : Nat → Nat} {z : sf_Z}
theorem mw_us (h : mw_R us nu bm tn g za ss bk z) : us ≤ 400000 := by
  obtain ⟨h1, h2, h3, h4, h5, h6, h7, h8, h9, h10, h11, h12, h13⟩ := h
  have := mw_sum_le (f := mln z) (h := fun k => sf_P (mln z k)) (n := nu) (fun k _ => sf_P_ge _)
  rw [← h11, ← h8.1] at this
  omega
theorem mw_hz (h : mw_R us nu bm tn g za ss bk z) : ∀ r, r < nu → (za r ≤ 0 ↔ mln z r = 0) := by
  obtain ⟨h1, h2, h3, h4, h5, h6, h7, h8, h9, h10, h11, h12, h13⟩ := h
  intro r hr
  by_cases q : zTk z r = 1
  · rw [mln_1 q, (h6 r hr q).1]
    have := (h6 r hr q).2
    constructor
    · intro e
      exact Nat.le_zero.mp ((nI_leI (b := 0) (by omega) (by decide)).mp e)
    · intro e
      rw [e]
      decide
  · rw [mln_0 q, h7 r hr q]
    exact ⟨fun _ => rfl, fun _ => by decide⟩
theorem mw_zs (h : mw_R us nu bm tn g za ss bk z) {k : Nat} (hk : k < nu) (hz : ¬ za k < 0) : zrow z (nI k) = some k ∧ zTk z k = 1 ∧ za k = nI (zLn z k) ∧ zLn z k ≤ 16384 ∧ (∀ i, i < zLn z k → zBy z k i = g (ss k + i)) ∧ (∀ i, i < zLn z k → ss k + i < 400000) ∧ sf_P (zLn z k) ≤ zOc z := by
  have hus := mw_us h
  obtain ⟨h1, h2, h3, h4, h5, h6, h7, h8, h9, h10, h11, h12, h13⟩ := h
  have q : zTk z k = 1 := Classical.byContradiction fun q => hz (by rw [h7 k hk q]; decide)
  refine ⟨?_, q, (h6 k hk q).1, (h6 k hk q).2, h9 k hk q, fun i hi => ?_, ?_⟩
  · unfold zrow
    rw [← h1, zi_some hk (by omega)]
    exact if_pos q
  · have := h8.2.1 k hk (by rw [mln_1 q]; omega)
    rw [mln_1 q] at this
    omega
  · have := mw_sum_up (f := fun k => sf_P (mln z k)) (v := 0) hk
    rw [← h11] at this
    try dsimp only at this
    rw [mln_1 q] at this
    omega
theorem mw_zn (h : mw_R us nu bm tn g za ss bk z) {row : Int32} (hr : ∀ k : Nat, k < nu → row = nI k → za k < 0) : zrow z row = none := by
  obtain ⟨h1, h2, h3, h4, h5, h6, h7, h8, h9, h10, h11, h12, h13⟩ := h
  unfold zrow
  by_cases q : ∃ k, k < nu ∧ row = nI k
  · obtain ⟨k, hk, rfl⟩ := q
    rw [← h1, zi_some hk (by omega)]
    have hz := hr k hk rfl
    show (if zTk z k = 1 then some k else none) = none
    rw [if_neg]
    intro e
    rw [(h6 k hk e).1] at hz
    exact nI_pos (by have := (h6 k hk e).2; omega) hz
  · rw [← h1, zi_none (by omega) (fun k hk e => q ⟨k, hk, e⟩)]
/-- two rows with bytes are apart -/
theorem mw_apart (h : mw_R us nu bm tn g za ss bk z) {k j a b : Nat} (hk : k < nu) (hj : j < nu) (tk1 : zTk z k = 1) (tj : zTk z j = 1) (hne : j ≠ k) (ha : a < zLn z j) (hb : b < zLn z k) : ss j + a ≠ ss k + b := by
  have := h.2.2.2.2.2.2.2.1.2.2 j k hj hk hne (by rw [mln_1 tj]; omega) (by rw [mln_1 tk1]; omega)
  rw [mln_1 tj, mln_1 tk1] at this
  omega
theorem mw_R_bytes {g2 : Nat → Int32} {k : Nat} {f : Nat → Int32} (h : mw_R us nu bm tn g za ss bk z) (hF : sb_Fit g2) (ho : ∀ j, j < nu → zTk z j = 1 → j ≠ k → ∀ i, i < zLn z j → g2 (ss j + i) = g (ss j + i)) (hf : ∀ i, i < zLn z k → f i = g2 (ss k + i)) : mw_R us nu bm tn g2 za ss bk (zput z k f) := by
  obtain ⟨h1, h2, h3, h4, h5, h6, h7, h8, h9, h10, h11, h12, h13⟩ := h
  refine ⟨h1, h2, h3, h4, h5, h6, h7, h8, ?_, h10, h11, h12, hF⟩
  intro j hj tj i hi
  show va_up (zBy z) k f j i = _
  by_cases q : j = k
  · subst q
    rw [va_up_self]
    exact hf i hi
  · rw [va_up_ne _ _ q, ho j hj tj q i hi]
    exact h9 j hj tj i hi
theorem mln_zset {k n : Nat} {f : Nat → Int32} (hk : zTk z k = 1) : mln (zset z k n f) = va_up (mln z) k n := by
  funext j
  show (if zTk z j = 1 then va_up (zLn z) k n j else 0) = va_up (mln z) k n j
  by_cases q : j = k
  · subst q
    rw [if_pos hk, va_up_self, va_up_self]
  · rw [va_up_ne _ _ q, va_up_ne _ _ q]
    rfl
theorem mw_R_len {us' : Nat} {k n : Nat} {f g2 : Nat → Int32} {ss2 : Nat → Nat} (h : mw_R us nu bm tn g za ss bk z) (hk : k < nu) (tk1 : zTk z k = 1) (hn : n ≤ 16384) (hroom : sf_P n ≤ sf_P (zLn z k) ∨ zOc z + sf_P n ≤ 400000) (hL : mw_L us' nu (va_up (mln z) k n) ss2) (ho : ∀ j, j < nu → j ≠ k → ∀ i, i < mln z j → g2 (ss2 j + i) = g (ss j + i)) (hf : ∀ i, i < n → f i = g2 (ss2 k + i)) (hF : sb_Fit g2) :
    mw_R us' nu bm (tn + sf_P n - sf_P (mln z k)) g2 (upd za k (nI n)) ss2 bk (zset z k n f) := by
  obtain ⟨h1, h2, h3, h4, h5, h6, h7, h8, h9, h10, h11, h12, h13⟩ := h
  have hsum := mw_sum_up (f := fun k => sf_P (mln z k)) (v := sf_P n) hk
  rw [← h11] at hsum
  try dsimp only at hsum
  rw [mln_1 tk1] at hsum
  refine ⟨h1, h2, h3, h4, h5, ?_, ?_, by rw [mln_zset tk1]; exact hL, ?_, ?_, ?_, ?_, hF⟩
  · intro j hj tj
    show upd za k (nI n) j = nI (va_up (zLn z) k n j) ∧ va_up (zLn z) k n j ≤ 16384
    by_cases q : j = k
    · subst q
      rw [pk_us, va_up_self]
      exact ⟨rfl, hn⟩
    · rw [pk_un q, va_up_ne _ _ q]
      exact h6 j hj tj
  · intro j hj tj
    have q : j ≠ k := fun e => tj (by rw [e]; exact tk1)
    rw [pk_un q]
    exact h7 j hj tj
  · intro j hj tj i hi
    have tj : zTk z j = 1 := tj
    have hi : i < va_up (zLn z) k n j := hi
    show va_up (zBy z) k f j i = _
    by_cases q : j = k
    · subst q
      rw [va_up_self] at hi ⊢
      exact hf i hi
    · rw [va_up_ne _ _ q] at hi ⊢
      rw [ho j hj q i (by rw [mln_1 tj]; exact hi)]
      exact h9 j hj tj i hi
  · show tn + sf_P n - sf_P (mln z k) = zOc z + sf_P n - sf_P (zLn z k)
    rw [h10, mln_1 tk1]
  · show zOc z + sf_P n - sf_P (zLn z k) = mw_sum (fun j => sf_P (mln (zset z k n f) j)) nu
    rw [mln_zset tk1, mw_sum_congr (h := va_up (fun k => sf_P (mln z k)) k (sf_P n)) (fun j _ => by
      by_cases q : j = k
      · rw [q, va_up_self, va_up_self]
      · rw [va_up_ne _ _ q, va_up_ne _ _ q])]
    omega
  · show zOc z + sf_P n - sf_P (zLn z k) ≤ 400000
    omega
theorem mw_R_give {us' : Nat} {k : Nat} {g2 : Nat → Int32} {ss2 : Nat → Nat} (h : mw_R us nu bm tn g za ss bk z) (hk : k < nu) (tk1 : zTk z k = 1) (hL : mw_L us' nu (va_up (mln z) k 0) ss2) (ho : ∀ j, j < nu → j ≠ k → ∀ i, i < mln z j → g2 (ss2 j + i) = g (ss j + i)) (hF : sb_Fit g2) :
    mw_R us' nu (bm + 1) (tn + sf_P 0 - sf_P (mln z k)) g2 (upd (upd za k (nI 0)) k (-1)) ss2 (va_up bk bm k) (zMd z, k :: zFr z, va_up (zTk z) k 0, zLn z, zBy z, zCt z - 1, zOc z - sf_P (zLn z k)) := by
  obtain ⟨h1, h2, h3, h4, h5, h6, h7, h8, h9, h10, h11, h12, h13⟩ := h
  have hsum := mw_sum_up (f := fun k => sf_P (mln z k)) (v := 0) hk
  rw [← h11] at hsum
  try dsimp only at hsum
  rw [mln_1 tk1] at hsum
  have hkf : k ∉ zFr z := fun q => by have := (h4 k q).2; omega
  have em : mln (zMd z, k :: zFr z, va_up (zTk z) k 0, zLn z, zBy z, zCt z - 1, zOc z - sf_P (zLn z k)) = va_up (mln z) k 0 := by
    funext j
    show (if va_up (zTk z) k 0 j = 1 then zLn z j else 0) = va_up (mln z) k 0 j
    by_cases q : j = k
    · subst q
      rw [va_up_self, va_up_self]
      rfl
    · rw [va_up_ne _ _ q, va_up_ne _ _ q]
      rfl
  refine ⟨h1, h2, ?_, ?_, ?_, ?_, ?_, by rw [em]; exact hL, ?_, ?_, ?_, ?_, hF⟩
  · show k :: zFr z = _
    rw [mw_fr_push, h3]
  · intro x hx
    show x < nu ∧ va_up (zTk z) k 0 x = 0
    rcases List.mem_cons.mp hx with q | q
    · subst q
      exact ⟨hk, va_up_self _ _ _⟩
    · rw [va_up_ne _ _ (show x ≠ k from fun e => hkf (e ▸ q))]
      exact h4 x q
  · show (k :: zFr z).Nodup
    rw [List.nodup_cons]
    exact ⟨hkf, h5⟩
  · intro j hj tj
    have tj : va_up (zTk z) k 0 j = 1 := tj
    have q : j ≠ k := fun e => by rw [e, va_up_self] at tj; cases tj
    rw [va_up_ne _ _ q] at tj
    rw [pk_un q, pk_un q]
    exact h6 j hj tj
  · intro j hj tj
    have tj : va_up (zTk z) k 0 j ≠ 1 := tj
    by_cases q : j = k
    · subst q
      rw [pk_us]
    · rw [va_up_ne _ _ q] at tj
      rw [pk_un q, pk_un q]
      exact h7 j hj tj
  · intro j hj tj i hi
    have tj : va_up (zTk z) k 0 j = 1 := tj
    have q : j ≠ k := fun e => by rw [e, va_up_self] at tj; cases tj
    rw [va_up_ne _ _ q] at tj
    rw [ho j hj q i (by rw [mln_1 tj]; exact hi)]
    exact h9 j hj tj i hi
  · show tn + sf_P 0 - sf_P (mln z k) = zOc z - sf_P (zLn z k)
    rw [h10, mln_1 tk1]
    rfl
  · show zOc z - sf_P (zLn z k) = mw_sum _ nu
    rw [em, mw_sum_congr (h := va_up (fun k => sf_P (mln z k)) k 0) (fun j _ => by
      by_cases q : j = k
      · rw [q, va_up_self, va_up_self]; rfl
      · rw [va_up_ne _ _ q, va_up_ne _ _ q])]
    omega
  · show zOc z - sf_P (zLn z k) ≤ 400000
    omega
/-- a row is taken: k is the number, nu2 the numbers then, bm2 those given back then -/
theorem mw_R_take {us' nu2 bm2 k n : Nat} {g2 : Nat → Int32} {ss2 : Nat → Nat} {fr2 : List Nat} (h : mw_R us nu bm tn g za ss bk z) (hk : k < nu2) (hnu2 : nu2 ≤ 20000) (hle : nu ≤ nu2) (hall : ∀ j, j < nu2 → j ≠ k → j < nu) (hkn : k < nu → zTk z k ≠ 1) (hfr : fr2 = mw_fr bk bm2) (hf2 : ∀ x, x ∈ fr2 → x < nu2 ∧ x ≠ k ∧ zTk z x = 0) (hnd : fr2.Nodup) (hn : n ≤ 16384) (hroom : zOc z + sf_P n ≤ 400000) (hs0 : mw_sum (va_up (fun j => sf_P (mln z j)) k 0) nu2 = zOc z)
    (hL : mw_L us' nu2 (va_up (va_up (mln z) k 0) k n) ss2) (ho : ∀ j, j < nu2 → j ≠ k → ∀ i, i < va_up (mln z) k 0 j → g2 (ss2 j + i) = g (ss j + i)) (hf : ∀ i, i < n → g2 (ss2 k + i) = 0) (hF : sb_Fit g2) :
    mw_R us' nu2 bm2 (tn + sf_P n - sf_P 0) g2 (upd (upd za k (nI 0)) k (nI n)) ss2 bk (nu2, fr2, va_up (zTk z) k 1, va_up (zLn z) k n, va_up (zBy z) k (fun _ => 0), zCt z + 1, zOc z + sf_P n) := by
  obtain ⟨h1, h2, h3, h4, h5, h6, h7, h8, h9, h10, h11, h12, h13⟩ := h
  have em : mln (nu2, fr2, va_up (zTk z) k 1, va_up (zLn z) k n, va_up (zBy z) k (fun _ => 0), zCt z + 1, zOc z + sf_P n) = va_up (mln z) k n := by
    funext j
    show (if va_up (zTk z) k 1 j = 1 then va_up (zLn z) k n j else 0) = va_up (mln z) k n j
    by_cases q : j = k
    · subst q
      rw [va_up_self, va_up_self, va_up_self]
      rfl
    · rw [va_up_ne _ _ q, va_up_ne _ _ q, va_up_ne _ _ q]
      rfl
  rw [bx_uu] at hL
  refine ⟨rfl, hnu2, hfr, ?_, hnd, ?_, ?_, by rw [em]; exact hL, ?_, ?_, ?_, hroom, hF⟩
  · intro x hx
    show x < nu2 ∧ va_up (zTk z) k 1 x = 0
    obtain ⟨q1, q2, q3⟩ := hf2 x hx
    rw [va_up_ne _ _ q2]
    exact ⟨q1, q3⟩
  · intro j hj tj
    have tj : va_up (zTk z) k 1 j = 1 := tj
    show upd (upd za k (nI 0)) k (nI n) j = nI (va_up (zLn z) k n j) ∧ va_up (zLn z) k n j ≤ 16384
    by_cases q : j = k
    · subst q
      rw [pk_us, va_up_self]
      exact ⟨rfl, hn⟩
    · rw [va_up_ne _ _ q] at tj
      rw [pk_un q, pk_un q, va_up_ne _ _ q]
      exact h6 j (hall j hj q) tj
  · intro j hj tj
    have tj : va_up (zTk z) k 1 j ≠ 1 := tj
    have q : j ≠ k := fun e => tj (by rw [e, va_up_self])
    rw [va_up_ne _ _ q] at tj
    rw [pk_un q, pk_un q]
    exact h7 j (hall j hj q) tj
  · intro j hj tj i hi
    have tj : va_up (zTk z) k 1 j = 1 := tj
    have hi : i < va_up (zLn z) k n j := hi
    show va_up (zBy z) k (fun _ => 0) j i = _
    by_cases q : j = k
    · subst q
      rw [va_up_self] at hi ⊢
      exact (hf i hi).symm
    · rw [va_up_ne _ _ q] at hi tj ⊢
      rw [ho j hj q i (by rw [va_up_ne _ _ q, mln_1 tj]; exact hi)]
      exact h9 j (hall j hj q) tj i hi
  · show tn + sf_P n - sf_P 0 = zOc z + sf_P n
    rw [h10]
    rfl
  · show zOc z + sf_P n = mw_sum _ nu2
    have hsum := mw_sum_up (f := va_up (fun j => sf_P (mln z j)) k 0) (v := sf_P n) hk
    rw [hs0, va_up_self, bx_uu] at hsum
    rw [em, mw_sum_congr (h := va_up (fun k => sf_P (mln z k)) k (sf_P n)) (fun j _ => by
      by_cases q : j = k
      · rw [q, va_up_self, va_up_self]
      · rw [va_up_ne _ _ q, va_up_ne _ _ q])]
    omega
end MR
