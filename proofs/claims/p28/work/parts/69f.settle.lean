/-! What the settled rows hold. -/
def kCv (pr : Int32) (ps : Nat → Int32) (i t : Nat) : Bool := bt pr i && (decide (t < 30) && kRe pr ps 30 i t)
def kST (pr : Int32) (ps cv dp sx : Nat → Int32) (n : Nat) : Prop := ∀ i, i < n → (∀ t, bt (cv i) t = kCv pr ps i t) ∧ (bt pr i = true → kBd pr ps i 30 (dp i)) ∧ (bt pr i = true → ∀ t, t < 30 → kRe pr ps 30 i t = true → sx (30 * i + t) = nI (kd pr ps i t))
theorem kcl_0 {pr : Int32} {ps sx : Nat → Int32} {i : Nat} (hi : i < 30) (h : bt pr i = false) : ∀ j, kcl pr ps sx (nI i) j = (0, -1, 0, sx) := by
  intro j
  induction j with
  | zero =>
    show (0, -1, (if nB (khas pr (nI i)) = 0 then 0 else kbit (nI i)), sx) = _
    rw [if_pos ((kx_k hi).mpr h)]
  | succ j ih => show kcl1 ps (nI i) j (kcl pr ps sx (nI i) j) = _; rw [ih]; exact if_pos rfl
theorem kST_n {pr : Int32} {ps cv dp sx : Nat → Int32} (hp : kPs pr ps) : ∀ n, n ≤ 30 → kST pr ps (kset pr ps cv dp sx n).1 (kset pr ps cv dp sx n).2.1 (kset pr ps cv dp sx n).2.2 n := by
  intro n
  induction n with
  | zero => exact fun _ i hi => absurd hi (by omega)
  | succ n ih =>
    intro hn
    have ih := ih (by omega)
    show kST pr ps (kset1 pr ps n (kset pr ps cv dp sx n)).1 (kset1 pr ps n (kset pr ps cv dp sx n)).2.1 (kset1 pr ps n (kset pr ps cv dp sx n)).2.2 (n + 1)
    generalize kset pr ps cv dp sx n = x at ih ⊢
    obtain ⟨g1, g2, g3⟩ := x
    unfold kST kset1
    dsimp only
    intro i hi
    rw [kput_nI (by omega) (by decide), kput_nI (by omega) (by decide)]
    cases hb : bt pr n with
    | false =>
      rw [kcl_0 (by omega) hb]
      by_cases e : i = n
      · subst e
        rw [pk_us, pk_us]
        refine ⟨fun t => ?_, fun h => ?_, fun h => ?_⟩
        · show bt 0 t = _
          rw [b_0]; unfold kCv; rw [hb]; rfl
        · rw [hb] at h; cases h
        · rw [hb] at h; cases h
      · rw [pk_un e, pk_un e]; exact ih i (by omega)
    | true =>
      have B := kBI_n (sx := g3) (by omega : n < 30) hp hb 30 (Nat.le_refl _)
      by_cases e : i = n
      · subst e
        rw [pk_us, pk_us]
        refine ⟨fun t => ?_, fun _ => B.d, fun _ => B.sx⟩
        rw [B.mt t]; unfold kCv; rw [hb]; rfl
      · rw [pk_un e, pk_un e]
        have I := ih i (by omega)
        exact ⟨I.1, I.2.1, fun h t ht hr => (B.out _ (by omega)).trans (I.2.2 h t ht hr)⟩
/-- the counted sum of the senses that hold -/
def kSu (p : Nat → Bool) (cn : Nat → Nat) : Nat → Nat
  | 0 => 0
  | n + 1 => kSu p cn n + (if p n = true then cn n else 0)
theorem kSu_b {p : Nat → Bool} {cn : Nat → Nat} : ∀ n, (∀ k, k < n → cn k ≤ 1000) → kSu p cn n ≤ 1000 * n := by
  intro n
  induction n with
  | zero => exact fun _ => Nat.le_refl 0
  | succ n ih =>
    intro h
    have := ih (fun k hk => h k (by omega))
    have := h n (by omega)
    show kSu p cn n + _ ≤ _
    split <;> omega
theorem kSu_c {p q : Nat → Bool} {cn : Nat → Nat} : ∀ n, (∀ k, k < n → p k = q k) → kSu p cn n = kSu q cn n := by
  intro n
  induction n with
  | zero => exact fun _ => rfl
  | succ n ih => intro h; unfold kSu; rw [ih (fun k hk => h k (by omega)), h n (by omega)]
theorem kcvd_b {cv : Nat → Int32} {i : Nat} (hi : i < 30) : ∀ n, n ≤ 30 → ∀ k, k < 32 → bt (kcvd cv (nI i) n) k = (decide (k < n) && bt (cv k) i) := by
  intro n
  induction n with
  | zero => exact fun _ k _ => by rw [show kcvd cv (nI i) 0 = 0 from rfl, b_0]; rfl
  | succ n ih =>
    intro hn k hk
    have ih := ih (by omega) k hk
    unfold kcvd
    rw [kat_nI (by omega) (by decide)]
    by_cases e : bt (cv n) i = false
    · rw [if_pos ((kx_k hi).mpr e), ih]
      by_cases c : k = n
      · subst c; rw [e, Bool.and_false, Bool.and_false]
      · rw [show decide (k < n) = decide (k < n + 1) from decide_eq_decide.mpr (by omega)]
    · rw [if_neg (fun z => e ((kx_k hi).mp z)), b_or, ih, kbit_b (by omega) hk]
      have e : bt (cv n) i = true := by cases h : bt (cv n) i with | false => exact absurd h e | true => rfl
      by_cases c : k = n
      · subst c; rw [e, decide_eq_true rfl, Bool.or_true, decide_eq_true (by omega : k < k + 1)]; rfl
      · rw [decide_eq_false (show ¬ n = k from fun z => c z.symm), Bool.or_false, show decide (k < n) = decide (k < n + 1) from decide_eq_decide.mpr (by omega)]
theorem kcoa_s {cs : Nat → Int32} {cn : Nat → Nat} {z : Int32} (hc : ∀ k, k < 30 → cs k = nI (cn k)) : ∀ n, n ≤ 30 → kcoa cs z n = nI (kSu (bt z) cn n) := by
  intro n
  induction n with
  | zero => exact fun _ => rfl
  | succ n ih =>
    intro hn
    unfold kcoa kSu
    rw [kat_nI (by omega) (by decide), ih (by omega)]
    cases e : bt z n with
    | false => rw [if_pos ((kx_k (by omega)).mpr e), if_neg (by decide)]; rfl
    | true => rw [if_neg (fun w => by rw [(kx_k (by omega)).mp w] at e; cases e), if_pos rfl, hc n (by omega), nI_add]
/-- the counts of the senses that the sense covers -/
def kMs (pr : Int32) (ps : Nat → Int32) (cn : Nat → Nat) (a : Nat) : Nat := kSu (fun k => kCv pr ps k a) cn 30
theorem kMs_b {pr : Int32} {ps : Nat → Int32} {cn : Nat → Nat} {a : Nat} (h : ∀ k, k < 30 → cn k ≤ 1000) : kMs pr ps cn a ≤ 30000 := kSu_b 30 h
theorem kwei_s {pr : Int32} {ps cs cv ms dp sx : Nat → Int32} {cn : Nat → Nat} (hc : ∀ k, k < 30 → cs k = nI (cn k)) (hs : kST pr ps cv dp sx 30) : ∀ n, n ≤ 30 → ∀ a, a < n → kwei cs cv ms n a = nI (kMs pr ps cn a) := by
  intro n
  induction n with
  | zero => exact fun _ a ha => absurd ha (by omega)
  | succ n ih =>
    intro hn a ha
    unfold kwei
    rw [kput_nI (by omega) (by decide)]
    by_cases e : a = n
    · subst e
      rw [pk_us, kcoa_s hc 30 (Nat.le_refl _)]
      unfold kMs
      rw [kSu_c 30 (fun k hk => by rw [kcvd_b (by omega) 30 (Nat.le_refl _) k (by omega), decide_eq_true hk, Bool.true_and, (hs k hk).1])]
    · rw [pk_un e]; exact ih (by omega) a (by omega)
