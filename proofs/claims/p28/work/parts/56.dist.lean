/-! Steps upwards: a way of n steps, the least number of steps (1000 for none), and what layUp lays. -/
def kE (tr : Int32) (pa : Nat → Int32) (s q : Nat) : Bool := bt tr s && bt (pa s) q
def kpt (tr : Int32) (pa : Nat → Int32) : Nat → Nat → Nat → Bool
  | 0, s, t => decide (s = t)
  | n + 1, s, t => (List.range 30).any (fun q => kE tr pa s q && kpt tr pa n q t)
def kfs (p : Nat → Bool) : Nat → Nat → Nat
  | 0, a => a
  | n + 1, a => if p a = true then a else kfs p n (a + 1)
def kd (tr : Int32) (pa : Nat → Int32) (s t : Nat) : Nat := kfs (fun n => kpt tr pa n s t) 1000 0
theorem kpt_s {tr : Int32} {pa : Nat → Int32} {n s t q : Nat} (hq : q < 30) (h1 : kE tr pa s q = true) (h2 : kpt tr pa n q t = true) : kpt tr pa (n + 1) s t = true := by
  show ((List.range 30).any (fun q => kE tr pa s q && kpt tr pa n q t)) = true
  rw [List.any_eq_true]
  exact ⟨q, List.mem_range.mpr hq, by rw [h1, h2]; rfl⟩
theorem kpt_o {tr : Int32} {pa : Nat → Int32} {n s t : Nat} (h : kpt tr pa (n + 1) s t = true) : ∃ q, q < 30 ∧ kE tr pa s q = true ∧ kpt tr pa n q t = true := by
  have h : ((List.range 30).any (fun q => kE tr pa s q && kpt tr pa n q t)) = true := h
  rw [List.any_eq_true] at h
  obtain ⟨q, hq, h⟩ := h
  rw [Bool.and_eq_true] at h
  exact ⟨q, List.mem_range.mp hq, h.1, h.2⟩
theorem kfs_c {p : Nat → Bool} {u : Nat} : ∀ n a, a ≤ u → u ≤ a + n → (u < a + n → p u = true) → (∀ m, a ≤ m → p m = true → u ≤ m) → kfs p n a = u := by
  intro n
  induction n with
  | zero => intro a h1 h2 _ _; show a = u; omega
  | succ n ih =>
    intro a h1 h2 h3 h4
    show (if p a = true then a else kfs p n (a + 1)) = u
    by_cases e : p a = true
    · rw [if_pos e]; have := h4 a (Nat.le_refl a) e; omega
    · rw [if_neg e]
      have hne : a ≠ u := fun z => by
        subst z
        exact e (h3 (by omega))
      exact ih (a + 1) (by omega) (by omega) (fun h => h3 (by omega)) (fun m hm hp => h4 m (by omega) hp)
theorem kd_c {tr : Int32} {pa : Nat → Int32} {s t u : Nat} (h1 : u ≤ 1000) (h2 : u < 1000 → kpt tr pa u s t = true) (h3 : ∀ m, kpt tr pa m s t = true → u ≤ m) : kd tr pa s t = u :=
  kfs_c 1000 0 (by omega) (by omega) (fun h => h2 (by omega)) (fun m _ h => h3 m h)
def kWF (tr : Int32) (pa : Nat → Int32) (u : Nat → Nat) : Prop := ∀ k, k < 900 → u k ≤ 1000 ∧ (u k < 1000 → kpt tr pa (u k) (k / 30) (k % 30) = true) ∧ (k / 30 = k % 30 → u k = 0)
def kFx (tr : Int32) (pa : Nat → Int32) (u : Nat → Nat) (n : Nat) : Prop := ∀ k, k < n → ∀ q, q < 30 → kE tr pa (k / 30) q = true → u k ≤ u (30 * q + k % 30) + 1
def kSm (u : Nat → Nat) : Nat → Nat
  | 0 => 0
  | n + 1 => kSm u n + u n
def kRp (g : Nat → Int32) (u : Nat → Nat) : Prop := ∀ k, k < 900 → g k = nI (u k)
def kus (u : Nat → Nat) (j v : Nat) : Nat → Nat := fun i => if i = j then v else u i
theorem kSm_o {u : Nat → Nat} {j v : Nat} : ∀ n, n ≤ j → kSm (kus u j v) n = kSm u n := by
  intro n
  induction n with
  | zero => exact fun _ => rfl
  | succ n ih => intro h; show kSm _ n + kus u j v n = kSm u n + u n; rw [ih (by omega)]; unfold kus; rw [if_neg (by omega)]
theorem kSm_l {u : Nat → Nat} {j v : Nat} (hv : v < u j) : ∀ n, j < n → kSm (kus u j v) n < kSm u n := by
  intro n
  induction n with
  | zero => intro h; omega
  | succ n ih =>
    intro h
    show kSm _ n + kus u j v n < kSm u n + u n
    by_cases e : n = j
    · subst e
      rw [kSm_o n (Nat.le_refl n)]
      unfold kus
      rw [if_pos rfl]; omega
    · have h1 := ih (by omega)
      have h2 : kus u j v n = u n := by unfold kus; rw [if_neg e]
      omega
def kui (k : Nat) : Nat := if k / 30 = k % 30 then 0 else 1000
theorem kWF_0 {tr : Int32} {pa : Nat → Int32} : kWF tr pa kui := by
  intro k hk
  unfold kui
  refine ⟨by split <;> omega, fun h => ?_, fun h => by rw [if_pos h]⟩
  by_cases e : k / 30 = k % 30
  · rw [if_pos e]; exact decide_eq_true e
  · rw [if_neg e] at h; omega
/-- at the head of the whole loop; in the sweep, j cells done; in the cell j, q parents done -/
def kLW (tr : Int32) (pa g : Nat → Int32) (go : Int32) (x : Nat) : Prop := ∃ u, kRp g u ∧ kWF tr pa u ∧ ((go = 0 ∧ kFx tr pa u 900) ∨ (go = 1 ∧ kSm u 900 + 1 ≤ x))
def kLB (tr : Int32) (pa g : Nat → Int32) (go : Int32) (j S : Nat) : Prop := ∃ u, kRp g u ∧ kWF tr pa u ∧ ((go = 0 ∧ kSm u 900 ≤ S ∧ kFx tr pa u j) ∨ (go = 1 ∧ kSm u 900 < S))
def kLq (tr : Int32) (pa : Nat → Int32) (u : Nat → Nat) (go : Int32) (j q S : Nat) : Prop := (go = 0 ∧ kSm u 900 ≤ S ∧ kFx tr pa u j ∧ ∀ r, r < q → kE tr pa (j / 30) r = true → u j ≤ u (30 * r + j % 30) + 1) ∨ (go = 1 ∧ kSm u 900 < S)
def kLC (tr : Int32) (pa g : Nat → Int32) (go : Int32) (j q S : Nat) : Prop := ∃ u, kRp g u ∧ kWF tr pa u ∧ kLq tr pa u go j q S
theorem kLW_0 {tr : Int32} {pa g : Nat → Int32} (h : ∀ k, k < 900 → g k = nI (kui k)) : kLW tr pa g 1 (kSm kui 900 + 1) := ⟨kui, h, kWF_0, Or.inr ⟨rfl, Nat.le_refl _⟩⟩
theorem kLW_h {tr go : Int32} {pa g : Nat → Int32} {x : Nat} (h : kLW tr pa g go x) (hg : ¬ go = 0) : ∃ u, kRp g u ∧ kWF tr pa u ∧ kSm u 900 + 1 ≤ x := by
  obtain ⟨u, h1, h2, h3⟩ := h
  rcases h3 with h3 | h3
  · exact absurd h3.1 hg
  · exact ⟨u, h1, h2, h3.2⟩
theorem kLB_0 {tr : Int32} {pa g : Nat → Int32} {u : Nat → Nat} (h1 : kRp g u) (h2 : kWF tr pa u) : kLB tr pa g 0 0 (kSm u 900) := ⟨u, h1, h2, Or.inl ⟨rfl, Nat.le_refl _, fun k hk => absurd hk (by omega)⟩⟩
theorem kLC_0 {tr go : Int32} {pa g : Nat → Int32} {j S : Nat} (h : kLB tr pa g go j S) : kLC tr pa g go j 0 S := by
  obtain ⟨u, h1, h2, h3⟩ := h
  refine ⟨u, h1, h2, ?_⟩
  rcases h3 with h3 | h3
  · exact Or.inl ⟨h3.1, h3.2.1, h3.2.2, fun r hr => absurd hr (by omega)⟩
  · exact Or.inr h3
theorem kLC_1 {tr go : Int32} {pa g : Nat → Int32} {j S : Nat} (h : kLC tr pa g go j 30 S) : kLB tr pa g go (j + 1) S := by
  obtain ⟨u, h1, h2, h3⟩ := h
  refine ⟨u, h1, h2, ?_⟩
  rcases h3 with h3 | h3
  · refine Or.inl ⟨h3.1, h3.2.1, fun k hk q hq he => ?_⟩
    by_cases e : k = j
    · subst e; exact h3.2.2.2 q hq he
    · exact h3.2.2.1 k (by omega) q hq he
  · exact Or.inr h3
theorem kLC_n {tr go : Int32} {pa g : Nat → Int32} {u : Nat → Nat} {j q S : Nat} (h1 : kRp g u) (h2 : kWF tr pa u) (h3 : kLq tr pa u go j q S) (hn : kE tr pa (j / 30) q = true → u j ≤ u (30 * q + j % 30) + 1) : kLC tr pa g go j (q + 1) S := by
  refine ⟨u, h1, h2, ?_⟩
  rcases h3 with h3 | h3
  · refine Or.inl ⟨h3.1, h3.2.1, h3.2.2.1, fun r hr he => ?_⟩
    by_cases e : r = q
    · subst e; exact hn he
    · exact h3.2.2.2 r (by omega) he
  · exact Or.inr h3
theorem kLC_w {tr go : Int32} {pa g : Nat → Int32} {u : Nat → Nat} {j q S : Nat} (hj : j < 900) (hq : q < 30) (h1 : kRp g u) (h2 : kWF tr pa u) (h3 : kLq tr pa u go j q S) (he : kE tr pa (j / 30) q = true) (hl : u (30 * q + j % 30) + 1 < u j) : kLC tr pa (upd g j (nI (u (30 * q + j % 30) + 1))) 1 j (q + 1) S := by
  have hm : j % 30 < 30 := Nat.mod_lt _ (by decide)
  obtain ⟨a1, a2, a3⟩ := h2 j hj
  obtain ⟨b1, b2, b3⟩ := h2 (30 * q + j % 30) (by omega)
  rw [show (30 * q + j % 30) / 30 = q by omega, show (30 * q + j % 30) % 30 = j % 30 by omega] at b2
  refine ⟨kus u j (u (30 * q + j % 30) + 1), fun k hk => ?_, fun k hk => ?_, Or.inr ⟨rfl, ?_⟩⟩
  · unfold kus upd
    by_cases e : k = j
    · rw [if_pos e, if_pos e]
    · rw [if_neg e, if_neg e]; exact h1 k hk
  · unfold kus
    by_cases e : k = j
    · subst e
      rw [if_pos rfl]
      refine ⟨by omega, fun _ => kpt_s hq he (b2 (by omega)), fun hd => ?_⟩
      have := a3 hd
      omega
    · rw [if_neg e]; exact h2 k hk
  · have := kSm_l hl 900 hj
    rcases h3 with h3 | h3
    · omega
    · omega
theorem kLB_1 {tr go : Int32} {pa g : Nat → Int32} {S x : Nat} (h : kLB tr pa g go 900 S) (hx : S + 1 ≤ x) : ∃ x1, x1 < x ∧ kLW tr pa g go x1 := by
  obtain ⟨u, h1, h2, h3⟩ := h
  rcases h3 with h3 | h3
  · exact ⟨0, by omega, u, h1, h2, Or.inl ⟨h3.1, h3.2.2⟩⟩
  · exact ⟨kSm u 900 + 1, by omega, u, h1, h2, Or.inr ⟨h3.1, Nat.le_refl _⟩⟩
/-- what the reference's table up is: the least number of steps -/
def kUp (tr : Int32) (pa up : Nat → Int32) : Prop := ∀ a b, a < 30 → b < 30 → up (30 * a + b) = nI (kd tr pa a b)
theorem kLW_e {tr go : Int32} {pa g : Nat → Int32} {x : Nat} (h : kLW tr pa g go x) (hg : go = 0) : kUp tr pa g := by
  obtain ⟨u, h1, h2, h3⟩ := h
  have hf : kFx tr pa u 900 := by
    rcases h3 with h3 | h3
    · exact h3.2
    · exfalso; rw [h3.1] at hg; exact absurd hg (by decide)
  intro a b ha hb
  have key : ∀ m s, s < 30 → kpt tr pa m s b = true → u (30 * s + b) ≤ m := by
    intro m
    induction m with
    | zero =>
      intro s hs hp
      have e : s = b := of_decide_eq_true hp
      subst e
      have := (h2 (30 * s + s) (by omega)).2.2 (by omega)
      omega
    | succ m ih =>
      intro s hs hp
      obtain ⟨q, hq, h4, h5⟩ := kpt_o hp
      have h6 := ih q hq h5
      have h7 := hf (30 * s + b) (by omega) q hq (by rw [show (30 * s + b) / 30 = s by omega]; exact h4)
      rw [show (30 * s + b) % 30 = b by omega] at h7
      omega
  obtain ⟨c1, c2, -⟩ := h2 (30 * a + b) (by omega)
  rw [show (30 * a + b) / 30 = a by omega, show (30 * a + b) % 30 = b by omega] at c2
  rw [h1 _ (by omega), kd_c c1 c2 (fun m hm => key m a ha hm)]
