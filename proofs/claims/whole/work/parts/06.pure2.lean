/-! the memory's invariant, and what its methods' steps do to it (pure) -/
def sf_pk (b x y : Option Nat) : Option Nat := match b with
  | none => x
  | some _ => y
/-- the memory's part of a state: occupied, end, first, last, bytes, start, length, before, after -/
abbrev sf_M : Type := Nat × Nat × Option Nat × Option Nat × (Nat → Int32) × (Nat → Nat) × (Nat → Nat) × (Nat → Option Nat) × (Nat → Option Nat)
def sf_MI (LP c : List Nat) (oc en : Nat) (fs la : Option Nat) (g : Nat → Int32) (st ln : Nat → Nat) (bf af : Nat → Option Nat) : Prop :=
  c.Nodup ∧ (∀ a, a ∈ c → a ∈ LP) ∧ fs = c.head? ∧ la = c.getLast? ∧ sf_lnk bf af c ∧ sf_lay st ln 0 c en ∧ en ≤ 400000 ∧ oc = sf_sum ln c ∧ (∀ a, a ∈ c → ln a ≤ 16384) ∧ sb_Fit g
theorem sf_MI_oc {LP c : List Nat} {oc en : Nat} {fs la : Option Nat} {g : Nat → Int32} {st ln : Nat → Nat} {bf af : Nat → Option Nat} (h : sf_MI LP c oc en fs la g st ln bf af) : oc ≤ en ∧ en ≤ 400000 := by
  obtain ⟨-, -, -, -, -, h6, h7, h8, -⟩ := h
  have := sf_lay_sum h6
  omega
theorem sf_MI_st {LP c : List Nat} {oc en : Nat} {fs la : Option Nat} {g : Nat → Int32} {st ln : Nat → Nat} {bf af : Nat → Option Nat} (h : sf_MI LP c oc en fs la g st ln bf af) {a : Nat} (ha : a ∈ c) : a ∈ LP ∧ st a + sf_P (ln a) ≤ en ∧ st a + ln a ≤ 400000 ∧ ln a ≤ 16384 ∧ sf_P (ln a) ≤ oc := by
  obtain ⟨-, h2, -, -, -, h6, h7, h8, h9, -⟩ := h
  have q := (sf_lay_in h6 ha).2
  have qP := sf_P_ge (ln a)
  refine ⟨h2 a ha, q, by omega, h9 a ha, ?_⟩
  obtain ⟨l, r, rfl⟩ := List.append_of_mem ha
  rw [h8, sf_sum_app]
  simp only [sf_sum]
  omega
theorem sf_head_app {c : List Nat} {a : Nat} : (c ++ [a]).head? = sf_pk c.getLast? (some a) c.head? := by
  cases c with
  | nil => rfl
  | cons x t =>
    cases h : (x :: t).getLast? with
    | none => simp at h
    | some z => rfl
theorem sf_nd_app {c : List Nat} {a : Nat} (h : c.Nodup) (ha : a ∉ c) : (c ++ [a]).Nodup := by
  rw [List.nodup_append]
  exact ⟨h, by simp, fun x hx y hy => by
    rw [List.mem_singleton] at hy
    subst hy
    exact fun q => ha (q ▸ hx)⟩
/-- a new row at the end -/
theorem sf_MI_app {LP c : List Nat} {oc en b n a : Nat} {fs la : Option Nat} {g g2 : Nat → Int32} {st st1 ln : Nat → Nat} {bf af : Nat → Option Nat} (h : sf_MI LP c oc en fs la g st ln bf af) (ha : a ∉ c) (haL : a ∈ LP) (hn : n ≤ 16384) (hl : sf_lay st1 ln 0 c b) (hb : b + sf_P n ≤ 400000) (hF : sb_Fit g2) :
    sf_MI LP (c ++ [a]) (oc + sf_P n) (b + sf_P n) (sf_pk la (some a) fs) (some a) g2 (va_up st1 a b) (va_up ln a n) (va_up bf a la) (sf_apA af la a) := by
  obtain ⟨h1, h2, h3, h4, h5, h6, h7, h8, h9, h10⟩ := h
  have hne : ∀ x, x ∈ c → x ≠ a := fun x hx q => ha (q ▸ hx)
  refine ⟨sf_nd_app h1 ha, ?_, ?_, ?_, ?_, ?_, hb, ?_, ?_, hF⟩
  · intro x hx
    rcases List.mem_append.mp hx with hx | hx
    · exact h2 x hx
    · rw [List.mem_singleton.mp hx]; exact haL
  · rw [sf_head_app, h3, h4]
  · rw [sf_last_cons]; rfl
  · rw [h4]; exact sf_lnk_app h5 ha h1
  · refine sf_lay_app.mpr ⟨b, sf_lay_congr hl (fun x hx => ⟨va_up_ne _ _ (hne x hx), by rw [va_up_ne _ _ (hne x hx)]; exact Nat.le_refl _⟩), ?_⟩
    show b ≤ va_up st1 a b a ∧ va_up st1 a b a + sf_P (va_up ln a n a) ≤ b + sf_P n
    rw [va_up_self, va_up_self]
    exact ⟨Nat.le_refl _, Nat.le_refl _⟩
  · rw [sf_sum_app, sf_sum_congr (ln' := va_up ln a n) (ln := ln) (fun x hx => by rw [va_up_ne _ _ (hne x hx)]), ← h8]
    show _ = oc + (sf_P (va_up ln a n a) + 0)
    rw [va_up_self]
    rfl
  · intro x hx
    rcases List.mem_append.mp hx with hx | hx
    · rw [va_up_ne _ _ (hne x hx)]; exact h9 x hx
    · rw [List.mem_singleton.mp hx, va_up_self]; exact hn
/-- a row is taken out -/
theorem sf_MI_un {LP l r : List Nat} {oc en a : Nat} {fs la : Option Nat} {g : Nat → Int32} {st ln : Nat → Nat} {bf af : Nat → Option Nat} (h : sf_MI LP (l ++ a :: r) oc en fs la g st ln bf af) :
    bf a = l.getLast? ∧ af a = r.head? ∧ sf_MI LP (l ++ r) (oc - sf_P (ln a)) en (sf_pk (bf a) (af a) fs) (sf_pk (af a) (bf a) la) g st ln (sf_unA bf (af a) (bf a)) (sf_unA af (bf a) (af a)) := by
  obtain ⟨h1, h2, h3, h4, h5, h6, h7, h8, h9, h10⟩ := h
  obtain ⟨hb, ha⟩ := h5 l a r rfl
  obtain ⟨n1, n2, n3, n4⟩ := sf_nd_mid h1
  refine ⟨hb, ha, n3, ?_, ?_, ?_, ?_, sf_lay_un h6, h7, ?_, ?_, h10⟩
  · intro x hx
    rcases List.mem_append.mp hx with hx | hx
    · exact h2 x (List.mem_append_left _ hx)
    · exact h2 x (List.mem_append_right _ (List.mem_cons_of_mem _ hx))
  · rw [hb, ha, h3]
    cases l with
    | nil => rfl
    | cons x t =>
      cases hz : (x :: t).getLast? with
      | none => simp at hz
      | some z => rfl
  · rw [hb, ha, h4]
    cases r with
    | nil => rw [List.append_nil]; rfl
    | cons x t =>
      show (l ++ a :: x :: t).getLast? = (l ++ x :: t).getLast?
      rw [sf_last_cons, sf_last_cons]
      simp
  · rw [hb, ha]; exact sf_lnk_un h5 h1
  · rw [h8, sf_sum_app, sf_sum_app]
    simp only [sf_sum]
    omega
  · intro x hx
    rcases List.mem_append.mp hx with hx | hx
    · exact h9 x (List.mem_append_left _ hx)
    · exact h9 x (List.mem_append_right _ (List.mem_cons_of_mem _ hx))
/-- a row keeps its start and gets another length within its places -/
theorem sf_MI_len {LP c : List Nat} {oc en a n : Nat} {fs la : Option Nat} {g g2 : Nat → Int32} {st ln : Nat → Nat} {bf af : Nat → Option Nat} (h : sf_MI LP c oc en fs la g st ln bf af) (ha : a ∈ c) (hn : sf_P n ≤ sf_P (ln a)) (hn2 : n ≤ 16384) (hF : sb_Fit g2) :
    sf_MI LP c (oc + sf_P n - sf_P (ln a)) en fs la g2 st (va_up ln a n) bf af := by
  obtain ⟨h1, h2, h3, h4, h5, h6, h7, h8, h9, h10⟩ := h
  have hup : ∀ x, x ∈ c → sf_P (va_up ln a n x) ≤ sf_P (ln x) := by
    intro x hx
    by_cases q : x = a
    · rw [q, va_up_self]; exact hn
    · rw [va_up_ne _ _ q]; exact Nat.le_refl _
  refine ⟨h1, h2, h3, h4, h5, sf_lay_congr h6 (fun x hx => ⟨rfl, hup x hx⟩), h7, ?_, ?_, hF⟩
  · obtain ⟨l, r, rfl⟩ := List.append_of_mem ha
    obtain ⟨n1, n2, n3, n4⟩ := sf_nd_mid h1
    rw [h8, sf_sum_app, sf_sum_app]
    simp only [sf_sum]
    rw [va_up_self, sf_sum_congr (c := l) (ln' := va_up ln a n) (ln := ln) (fun x hx => by rw [va_up_ne _ _ (show x ≠ a from fun q => n1 (q ▸ hx))]), sf_sum_congr (c := r) (ln' := va_up ln a n) (ln := ln) (fun x hx => by rw [va_up_ne _ _ (show x ≠ a from fun q => n2 (q ▸ hx))])]
    omega
  · intro x hx
    by_cases q : x = a
    · rw [q, va_up_self]; exact hn2
    · rw [va_up_ne _ _ q]; exact h9 x hx
