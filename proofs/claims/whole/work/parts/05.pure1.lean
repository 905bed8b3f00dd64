/-! pure rows: places, the chain's links, the layout. No machine here. -/
/-- the places of n bytes -/
def sf_P (n : Nat) : Nat := (n + 7) / 8 * 8
theorem sf_P_ge (n : Nat) : n ≤ sf_P n := by unfold sf_P; omega
theorem sf_P_le {n : Nat} (h : n ≤ 16384) : sf_P n ≤ 16384 := by unfold sf_P; omega
theorem sf_P_mono {a b : Nat} (h : a ≤ b) : sf_P a ≤ sf_P b := by unfold sf_P; omega
/-- the links of a chain: each member's two neighbours -/
def sf_lnk (bf af : Nat → Option Nat) (c : List Nat) : Prop := ∀ (l : List Nat) (a : Nat) (r : List Nat), c = l ++ a :: r → bf a = l.getLast? ∧ af a = r.head?
theorem sf_up_ne {α : Type} {f : Nat → α} {k j : Nat} {v : α} (h : j ≠ k) : va_up f k v j = f j := by simp [va_up, h]
theorem sf_last_mem {c : List Nat} {z : Nat} (h : c.getLast? = some z) : z ∈ c := List.mem_of_getLast? h
theorem sf_head_mem {c : List Nat} {z : Nat} (h : c.head? = some z) : z ∈ c := List.mem_of_head? h
theorem sf_last_cons (x : Nat) (l r : List Nat) : (l ++ x :: r).getLast? = (x :: r).getLast? := by
  rw [List.getLast?_append]
  cases h : (x :: r).getLast? with
  | none => simp at h
  | some z => rfl
theorem sf_last_ne {l r : List Nat} (h : r ≠ []) : (l ++ r).getLast? = r.getLast? := by
  cases r with
  | nil => exact absurd rfl h
  | cons x r => exact sf_last_cons x l r
theorem sf_head_ne {l r : List Nat} (h : l ≠ []) : (l ++ r).head? = l.head? := by
  cases l with
  | nil => exact absurd rfl h
  | cons x l => rfl
theorem sf_nd_mid {l r : List Nat} {a : Nat} (h : (l ++ a :: r).Nodup) : a ∉ l ∧ a ∉ r ∧ (l ++ r).Nodup ∧ ∀ x, x ∈ l → x ∈ r → False := by
  rw [List.nodup_append] at h
  obtain ⟨h1, h2, h3⟩ := h
  rw [List.nodup_cons] at h2
  refine ⟨fun q => h3 a q a List.mem_cons_self rfl, h2.1, ?_, fun x p q => h3 x p x (List.mem_cons_of_mem _ q) rfl⟩
  rw [List.nodup_append]
  exact ⟨h1, h2.2, fun x p y q => h3 x p y (List.mem_cons_of_mem _ q)⟩
/-- append: what the method writes -/
def sf_apA (af : Nat → Option Nat) (la : Option Nat) (a : Nat) : Nat → Option Nat := match la with
  | none => va_up af a none
  | some z => va_up (va_up af a none) z (some a)
theorem sf_lnk_app {bf af : Nat → Option Nat} {c : List Nat} {a : Nat} (h : sf_lnk bf af c) (ha : a ∉ c) (hn : c.Nodup) : sf_lnk (va_up bf a c.getLast?) (sf_apA af c.getLast? a) (c ++ [a]) := by
  intro l x r e
  rcases List.eq_nil_or_concat r with rfl | ⟨r', b, rfl⟩
  · obtain ⟨rfl, e2⟩ := List.append_inj' e rfl
    cases e2
    refine ⟨va_up_self _ _ _, ?_⟩
    cases hz : c.getLast? with
    | none => simp [sf_apA, va_up]
    | some z =>
      have : a ≠ z := fun q => ha (q ▸ sf_last_mem hz)
      simp [sf_apA, va_up, this]
  · rw [List.concat_eq_append] at e ⊢
    rw [← List.cons_append, ← List.append_assoc] at e
    obtain ⟨rfl, e2⟩ := List.append_inj' e rfl
    cases e2
    have hxc : x ∈ l ++ x :: r' := by simp
    have hxa : x ≠ a := fun q => ha (q ▸ hxc)
    obtain ⟨h1, h2⟩ := h l x r' rfl
    obtain ⟨n1, n2, -, -⟩ := sf_nd_mid hn
    refine ⟨by rw [sf_up_ne hxa]; exact h1, ?_⟩
    rw [sf_last_cons]
    cases hr : r' with
    | nil => simp [sf_apA, va_up]
    | cons y t =>
      have hz : (x :: y :: t).getLast? = (y :: t).getLast? := by simp
      rw [hz]
      cases hq : (y :: t).getLast? with
      | none => simp at hq
      | some z =>
        have hz2 : z ∈ r' := by rw [hr]; exact sf_last_mem hq
        have hxz : x ≠ z := fun q => n2 (q ▸ hz2)
        show va_up (va_up af a none) z (some a) x = _
        rw [sf_up_ne hxz, sf_up_ne hxa, h2, hr]
        rfl
/-- unlink: what the method writes -/
def sf_unA (af : Nat → Option Nat) (b n : Option Nat) : Nat → Option Nat := match b with
  | none => af
  | some z => va_up af z n
theorem sf_unA_ne {af : Nat → Option Nat} {b n : Option Nat} {x : Nat} (h : b ≠ some x) : sf_unA af b n x = af x := by
  cases b with
  | none => rfl
  | some z => exact sf_up_ne (fun q => h (by rw [q]))
theorem sf_unA_self {af : Nat → Option Nat} {n : Option Nat} {x : Nat} : sf_unA af (some x) n x = n := va_up_self _ _ _
theorem sf_lnk_un {bf af : Nat → Option Nat} {l r : List Nat} {a : Nat} (h : sf_lnk bf af (l ++ a :: r)) (hn : (l ++ a :: r).Nodup) : sf_lnk (sf_unA bf r.head? l.getLast?) (sf_unA af l.getLast? r.head?) (l ++ r) := by
  obtain ⟨n1, n2, n3, n4⟩ := sf_nd_mid hn
  have right : ∀ (as : List Nat) (x : Nat) (r' : List Nat), r = as ++ x :: r' → sf_unA bf r.head? l.getLast? x = (l ++ as).getLast? ∧ sf_unA af l.getLast? r.head? x = r'.head? := by
    intro as x r' e
    have hx : x ∈ r := by rw [e]; simp
    obtain ⟨h1, h2⟩ := h (l ++ a :: as) x r' (by rw [e]; simp)
    have hl : l.getLast? ≠ some x := fun q => n4 x (sf_last_mem q) hx
    refine ⟨?_, by rw [sf_unA_ne hl]; exact h2⟩
    cases has : as with
    | nil =>
      rw [has] at e
      have : r.head? = some x := by rw [e]; rfl
      rw [this, sf_unA_self, List.append_nil]
    | cons y t =>
      rw [has] at e h1
      have hy : r.head? = some y := by rw [e]; rfl
      have hyx : r.head? ≠ some x := by
        rw [hy]
        intro q
        cases q
        have n5 : r.Nodup := by
          rw [List.nodup_append] at n3
          exact n3.2.1
        rw [e, List.cons_append, List.nodup_cons] at n5
        exact n5.1 (by simp)
      rw [sf_unA_ne hyx, h1, sf_last_cons, sf_last_cons]
      rfl
  intro l' x r' e
  rcases List.append_eq_append_iff.mp e with ⟨as, rfl, e2⟩ | ⟨bs, e1, e2⟩
  · exact right as x r' e2
  · cases hb : bs with
    | nil =>
      rw [hb, List.append_nil] at e1
      rw [hb, List.nil_append] at e2
      have := right [] x r' e2.symm
      rw [List.append_nil] at this
      exact ⟨this.1.trans (by rw [e1]), this.2⟩
    | cons y t =>
      rw [hb, List.cons_append] at e2
      injection e2 with e3 e4
      subst e3
      rw [hb] at e1
      have hx : x ∈ l := by rw [e1]; simp
      obtain ⟨h1, h2⟩ := h l' x (t ++ a :: r) (by rw [e1]; simp)
      have hr : r.head? ≠ some x := fun q => n4 x hx (sf_head_mem q)
      refine ⟨by rw [sf_unA_ne hr]; exact h1, ?_⟩
      cases ht : t with
      | nil =>
        rw [ht] at e1 e4
        have : l.getLast? = some x := by rw [e1, sf_last_cons]; rfl
        rw [this, sf_unA_self, e4, List.nil_append]
      | cons y2 t2 =>
        have n5 : l.Nodup := by
          rw [List.nodup_append] at n3
          exact n3.1
        have hlx : l.getLast? ≠ some x := by
          intro q
          rw [e1, sf_last_cons, ht] at q
          have q2 : (y2 :: t2).getLast? = some x := by
            rw [← q]; simp
          have q3 : x ∈ t := by rw [ht]; exact sf_last_mem q2
          rw [e1] at n5
          exact (sf_nd_mid n5).2.1 q3
        rw [sf_unA_ne hlx, h2, e4, ht]
        rfl
theorem sf_lnk_nil {bf af : Nat → Option Nat} : sf_lnk bf af [] := fun l a r e => by simp at e
theorem sf_lnk_congr {bf af bf' af' : Nat → Option Nat} {c : List Nat} (h : sf_lnk bf af c) (h1 : ∀ a ∈ c, bf' a = bf a) (h2 : ∀ a ∈ c, af' a = af a) : sf_lnk bf' af' c := by
  intro l a r e
  have ha : a ∈ c := by rw [e]; simp
  rw [h1 a ha, h2 a ha]
  exact h l a r e
/-- the free rows: a stack, linked by 'after' -/
def sf_stk (af : Nat → Option Nat) : Option Nat → List Nat → Prop
  | g, [] => g = none
  | g, a :: t => g = some a ∧ sf_stk af (af a) t
theorem sf_stk_congr {af af' : Nat → Option Nat} : ∀ {f : List Nat} {g : Option Nat}, sf_stk af g f → (∀ a ∈ f, af' a = af a) → sf_stk af' g f
  | [], _, h, _ => h
  | a :: t, _, h, q => ⟨h.1, by rw [q a List.mem_cons_self]; exact sf_stk_congr h.2 (fun b hb => q b (List.mem_cons_of_mem _ hb))⟩
/-- the layout: the rows of the chain lie one behind the other between e0 and e -/
def sf_lay (st ln : Nat → Nat) : Nat → List Nat → Nat → Prop
  | e0, [], e => e0 ≤ e
  | e0, a :: t, e => e0 ≤ st a ∧ sf_lay st ln (st a + sf_P (ln a)) t e
theorem sf_lay_mono {st ln : Nat → Nat} : ∀ {c : List Nat} {e0 e0' e e' : Nat}, sf_lay st ln e0 c e → e0' ≤ e0 → e ≤ e' → sf_lay st ln e0' c e'
  | [], _, _, _, _, h, h1, h2 => Nat.le_trans h1 (Nat.le_trans h h2)
  | a :: t, _, _, _, _, h, h1, h2 => ⟨Nat.le_trans h1 h.1, sf_lay_mono h.2 (Nat.le_refl _) h2⟩
theorem sf_lay_congr {st ln st' ln' : Nat → Nat} : ∀ {c : List Nat} {e0 e : Nat}, sf_lay st ln e0 c e → (∀ a ∈ c, st' a = st a ∧ sf_P (ln' a) ≤ sf_P (ln a)) → sf_lay st' ln' e0 c e
  | [], _, _, h, _ => h
  | a :: t, _, _, h, q => ⟨by rw [(q a List.mem_cons_self).1]; exact h.1, by
      refine sf_lay_mono (sf_lay_congr h.2 (fun b hb => q b (List.mem_cons_of_mem _ hb))) ?_ (Nat.le_refl _)
      rw [(q a List.mem_cons_self).1]
      exact Nat.add_le_add_left (q a List.mem_cons_self).2 _⟩
theorem sf_lay_app {st ln : Nat → Nat} : ∀ {l r : List Nat} {e0 e : Nat}, sf_lay st ln e0 (l ++ r) e ↔ ∃ k, sf_lay st ln e0 l k ∧ sf_lay st ln k r e
  | [], r, e0, e => ⟨fun h => ⟨e0, Nat.le_refl _, h⟩, fun ⟨k, h1, h2⟩ => sf_lay_mono h2 h1 (Nat.le_refl _)⟩
  | a :: t, r, e0, e => by
    rw [List.cons_append]
    constructor
    · intro h
      obtain ⟨k, h1, h2⟩ := sf_lay_app.mp h.2
      exact ⟨k, ⟨h.1, h1⟩, h2⟩
    · intro ⟨k, h1, h2⟩
      exact ⟨h1.1, sf_lay_app.mpr ⟨k, h1.2, h2⟩⟩
theorem sf_lay_le {st ln : Nat → Nat} : ∀ {c : List Nat} {e0 e : Nat}, sf_lay st ln e0 c e → e0 ≤ e
  | [], _, _, h => h
  | a :: t, _, _, h => by
    have := sf_lay_le h.2
    have := h.1
    omega
theorem sf_lay_in {st ln : Nat → Nat} : ∀ {c : List Nat} {e0 e a : Nat}, sf_lay st ln e0 c e → a ∈ c → e0 ≤ st a ∧ st a + sf_P (ln a) ≤ e
  | b :: t, _, _, a, h, ha => by
    rcases List.mem_cons.mp ha with rfl | ha
    · exact ⟨h.1, sf_lay_le h.2⟩
    · have := sf_lay_in h.2 ha
      have := h.1
      omega
theorem sf_lay_un {st ln : Nat → Nat} {l r : List Nat} {a e0 e : Nat} (h : sf_lay st ln e0 (l ++ a :: r) e) : sf_lay st ln e0 (l ++ r) e := by
  obtain ⟨k, h1, h2⟩ := sf_lay_app.mp h
  refine sf_lay_app.mpr ⟨k, h1, sf_lay_mono h2.2 ?_ (Nat.le_refl _)⟩
  have := h2.1
  omega
theorem sf_lay_two {st ln : Nat → Nat} : ∀ {c : List Nat} {e0 e a b : Nat}, sf_lay st ln e0 c e → a ∈ c → b ∈ c → a ≠ b → st a + sf_P (ln a) ≤ st b ∨ st b + sf_P (ln b) ≤ st a
  | x :: t, _, _, a, b, h, ha, hb, hab => by
    rcases List.mem_cons.mp ha with ea | ha2
    · rcases List.mem_cons.mp hb with eb | hb2
      · exact absurd (ea.trans eb.symm) hab
      · rw [ea]; exact Or.inl (sf_lay_in h.2 hb2).1
    · rcases List.mem_cons.mp hb with eb | hb2
      · rw [eb]; exact Or.inr (sf_lay_in h.2 ha2).1
      · exact sf_lay_two h.2 ha2 hb2 hab
/-- the places of the rows of a list -/
def sf_sum (ln : Nat → Nat) : List Nat → Nat
  | [] => 0
  | a :: t => sf_P (ln a) + sf_sum ln t
theorem sf_sum_app {ln : Nat → Nat} : ∀ (l r : List Nat), sf_sum ln (l ++ r) = sf_sum ln l + sf_sum ln r
  | [], r => by simp [sf_sum]
  | a :: t, r => by rw [List.cons_append]; simp only [sf_sum]; rw [sf_sum_app t r]; omega
theorem sf_sum_congr {ln ln' : Nat → Nat} : ∀ {c : List Nat}, (∀ a ∈ c, sf_P (ln' a) = sf_P (ln a)) → sf_sum ln' c = sf_sum ln c
  | [], _ => rfl
  | a :: t, q => by
    simp only [sf_sum]
    rw [q a List.mem_cons_self, sf_sum_congr (fun b hb => q b (List.mem_cons_of_mem _ hb))]
theorem sf_lay_sum {st ln : Nat → Nat} : ∀ {c : List Nat} {e0 e : Nat}, sf_lay st ln e0 c e → e0 + sf_sum ln c ≤ e
  | [], _, _, h => h
  | a :: t, _, _, h => by
    have := sf_lay_sum h.2
    have := h.1
    simp only [sf_sum]
    omega
/-- pushing together: l is done, r is to come; all bytes of the rows stay what they were -/
def sf_PL (ln : Nat → Nat) (g0 : Nat → Int32) (st0 : Nat → Nat) (en : Nat) (l r : List Nat) (to : Nat) (g : Nat → Int32) (st : Nat → Nat) : Prop := to = sf_sum ln l ∧ sf_lay st ln 0 l to ∧ sf_lay st ln to r en ∧ (∀ a, a ∈ l ++ r → ∀ i, i < ln a → g (st a + i) = g0 (st0 a + i)) ∧ ∀ a, a ∉ l → st a = st0 a
theorem sf_PL_0 {ln : Nat → Nat} {g0 : Nat → Int32} {st0 : Nat → Nat} {en : Nat} {c : List Nat} (h : sf_lay st0 ln 0 c en) : sf_PL ln g0 st0 en [] c 0 g0 st0 := ⟨rfl, Nat.le_refl _, h, fun _ _ _ _ => rfl, fun _ _ => rfl⟩
theorem sf_PL_step {ln : Nat → Nat} {g0 g g' : Nat → Int32} {st0 st st' : Nat → Nat} {en to a : Nat} {l t : List Nat} (h : sf_PL ln g0 st0 en l (a :: t) to g st) (hn : (l ++ a :: t).Nodup) (hg : ∀ j, g' j = if to ≤ j ∧ j < to + ln a then g (st a + (j - to)) else g j) (hs : ∀ b, st' b = if b = a then to else st b) : sf_PL ln g0 st0 en (l ++ [a]) t (to + sf_P (ln a)) g' st' := by
  obtain ⟨h1, h2, ⟨h3, h4⟩, h5, h6⟩ := h
  obtain ⟨n1, n2, n3, n4⟩ := sf_nd_mid hn
  have hP := sf_P_ge (ln a)
  have ha : st' a = to := by rw [hs, if_pos rfl]
  have hl : ∀ b, b ∈ l → st' b = st b := fun b hb => by rw [hs]; exact if_neg (fun q : b = a => n1 (q ▸ hb))
  have ht : ∀ b, b ∈ t → st' b = st b := fun b hb => by rw [hs]; exact if_neg (fun q : b = a => n2 (q ▸ hb))
  refine ⟨?_, ?_, ?_, ?_, ?_⟩
  · rw [sf_sum_app, ← h1]; simp only [sf_sum]; omega
  · refine sf_lay_app.mpr ⟨to, sf_lay_congr h2 (fun b hb => ⟨hl b hb, Nat.le_refl _⟩), ?_⟩
    show to ≤ st' a ∧ st' a + sf_P (ln a) ≤ to + sf_P (ln a)
    rw [ha]
    exact ⟨Nat.le_refl _, Nat.le_refl _⟩
  · refine sf_lay_mono (sf_lay_congr h4 (fun b hb => ⟨ht b hb, Nat.le_refl _⟩)) ?_ (Nat.le_refl _)
    omega
  · intro b hb i hi
    rw [List.append_assoc] at hb
    have hb2 : b ∈ l ++ a :: t := hb
    rcases List.mem_append.mp hb with hb | hb
    · have q := (sf_lay_in h2 hb).2
      have qP := sf_P_ge (ln b)
      rw [hl b hb, hg, if_neg (by omega)]
      exact h5 b hb2 i hi
    · rcases List.mem_cons.mp hb with rfl | hb
      · rw [ha, hg, if_pos (by omega), Nat.add_sub_cancel_left]
        exact h5 b hb2 i hi
      · have q := (sf_lay_in h4 hb).1
        rw [ht b hb, hg, if_neg (by omega)]
        exact h5 b hb2 i hi
  · intro b hb
    have hb1 : b ∉ l := fun q => hb (List.mem_append_left _ q)
    have hb2 : b ≠ a := fun q => hb (by rw [q]; simp)
    rw [hs, if_neg hb2]
    exact h6 b hb1
