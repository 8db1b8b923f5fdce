/-! The class's two searches find the greatest worth and the first best choice. -/
theorem kups_i {σ : Type} {f : Int32 → σ → σ} {b : Nat} (hb : b < 2 ^ 31) (I : Nat → σ → Prop) (hs : ∀ x s, x < b → I x s → I (x + 1) (f (nI x) s)) : ∀ n x s, x + n = b → I x s → I b (kups f (nI b) (nI x) s) := by
  intro n
  induction n with
  | zero => intro x s h1 h2; have e : x = b := by omega
            subst e; rw [kups_x (nI_le (Nat.le_refl _) hb)]; exact h2
  | succ n ih =>
    intro x s h1 h2
    rw [kups_s (nI_ge (by omega) hb), nI_1]
    exact ih (x + 1) _ (by omega) (hs x s (by omega) h2)
theorem kdns_i {σ : Type} {f : Int32 → σ → σ} (I : Nat → σ → Prop) {b : Nat} (hb : b < 2 ^ 31) (hs : ∀ x s, x < b → I (x + 1) s → I x (f (nI x) s)) : ∀ n s, n ≤ b → I n s → I 0 (kdns f (nI n - 1) s) := by
  intro n
  induction n with
  | zero => intro s _ h; rw [kdns_x (by decide)]; exact h
  | succ n ih =>
    intro s hn h
    rw [nI_pred, kdns_s (nI_pos (by omega)), show nI n + (-1) = nI n - 1 from (Int32.sub_eq_add_neg _ _).symm]
    exact ih _ (by omega) (hs n s (by omega) h)
def kSF (t : Nat → Nat) (k : Nat) : Nat := 5 * k + t k
def kgs (M : Nat → Nat → Nat) (sf : Nat → Nat) (a : Nat) : Nat → Nat
  | 0 => 0
  | b + 1 => kgs M sf a b + M (sf b) a
theorem kgs_w {M : Nat → Nat → Nat} {sf : Nat → Nat} {p y : Nat} : ∀ b, kwNi M sf p b y = y + kgs M sf (sf p) b := by
  intro b
  induction b with
  | zero => rfl
  | succ b ih => show kwNi M sf p b y + M (sf b) (sf p) = y + (kgs M sf (sf p) b + M (sf b) (sf p)); rw [ih]; omega
theorem kwN_s {M : Nat → Nat → Nat} {sf : Nat → Nat} {p : Nat} : kwN M sf (p + 1) = kwN M sf p + kgs M sf (sf p) p := kgs_w p
theorem kgs_c {M : Nat → Nat → Nat} {s t : Nat → Nat} {a : Nat} : ∀ b, (∀ k, k < b → s k = t k) → kgs M s a b = kgs M t a b := by
  intro b
  induction b with
  | zero => exact fun _ => rfl
  | succ b ih => intro h; unfold kgs; rw [ih (fun k hk => h k (by omega)), h b (by omega)]
theorem kwN_c {M : Nat → Nat → Nat} {s t : Nat → Nat} : ∀ b, (∀ k, k < b → s k = t k) → kwN M s b = kwN M t b := by
  intro b
  induction b with
  | zero => exact fun _ => rfl
  | succ b ih => intro h; rw [kwN_s, kwN_s, ih (fun k hk => h k (by omega)), h b (by omega), kgs_c b (fun k hk => h k (by omega))]
theorem kSF_c {s t : Nat → Nat} {b : Nat} (h : kEq b s t) : ∀ k, k < b → kSF s k = kSF t k := fun k hk => by unfold kSF; rw [h k hk]
theorem kBst_i {P : Nat} {on : Nat → Nat} {sN lk : Nat → Nat → Nat} {D E : (Nat → Nat) → Prop} {gr : Int32} {be : Nat → Int32} (h : kBst P on sN lk D gr be) (he : ∀ s, kVal P on s → (D s ↔ E s)) : kBst P on sN lk E gr be := by
  rcases h with ⟨a, b⟩ | ⟨z, a, b, c, d, e, f⟩
  · exact Or.inl ⟨a, fun s hs w => b s hs ((he s hs).mpr w)⟩
  · exact Or.inr ⟨z, a, (he z a).mp b, c, d, fun s hs w => e s hs ((he s hs).mpr w), fun s hs w => f s hs ((he s hs).mpr w)⟩
theorem kLx_1 {i : Nat} {s t : Nat → Nat} : kLx (i + 1) s t ↔ kLx i s t ∨ (kEq i s t ∧ s i < t i) := by
  constructor
  · rintro ⟨p, a, b, c⟩
    by_cases e : p = i
    · subst e; exact Or.inr ⟨b, c⟩
    · exact Or.inl ⟨p, by omega, b, c⟩
  · rintro (⟨p, a, b, c⟩ | ⟨b, c⟩)
    · exact ⟨p, by omega, b, c⟩
    · exact ⟨i, by omega, b, c⟩
theorem kEq_1 {i : Nat} {s t : Nat → Nat} : kEq (i + 1) s t ↔ kEq i s t ∧ s i = t i := by
  constructor
  · exact fun h => ⟨fun k hk => h k (by omega), h i (by omega)⟩
  · rintro ⟨a, b⟩ k hk
    by_cases e : k = i
    · subst e; exact b
    · exact a k (by omega)
theorem kset0_e {t : Nat → Nat} {i o : Nat} : kset0 t i o i = o := if_pos rfl
theorem kset0_n {t : Nat → Nat} {i o : Nat} : kEq i (kset0 t i o) t := fun k hk => if_neg (by omega)
theorem kset0_L {s t : Nat → Nat} {i o : Nat} : kLx i s (kset0 t i o) ↔ kLx i s t := ⟨fun h => kLx_r kset0_n h, fun h => kLx_r (fun k hk => (kset0_n k hk).symm) h⟩
theorem kset0_E {s t : Nat → Nat} {i o : Nat} : kEq i s (kset0 t i o) ↔ kEq i s t := ⟨fun h k hk => (h k hk).trans (kset0_n k hk), fun h k hk => (h k hk).trans (kset0_n k hk).symm⟩
theorem kLx_up {i P : Nat} {s t : Nat → Nat} (hi : i ≤ P) (h : kLx i s t) : kLx P s t := by
  obtain ⟨p, a, b, c⟩ := h; exact ⟨p, by omega, b, c⟩
/-- what the tables of the search hold -/
abbrev kTb (P : Nat) (on : Nat → Nat) (M : Nat → Nat → Nat) (H : Nat → Nat) (al ho zs : Nat → Int32) : Prop :=
  P ≤ 6 ∧ kOn P on ∧ (∀ k, k < P → zs k = nI (on k)) ∧ (∀ y x o p, y < x → x < P → o < on y → p < on x → al (30 * (5 * x + p) + (5 * y + o)) = nI (M (5 * y + o) (5 * x + p)) ∧ M (5 * y + o) (5 * x + p) ≤ 10000) ∧ (∀ i, i ≤ P → ho i = nI (H i) ∧ H i ≤ 360000) ∧ H P = 0 ∧ ∀ s, kVal P on s → ∀ i, i ≤ P → kwN M (kSF s) P ≤ kwN M (kSF s) i + H i
theorem kgs_b {P : Nat} {on : Nat → Nat} {M : Nat → Nat → Nat} {H : Nat → Nat} {al ho zs : Nat → Int32} (T : kTb P on M H al ho zs) {t : Nat → Nat} {i o : Nat} (hi : i < P) (ht : kVal i on t) (hoi : o < on i) : ∀ n, n ≤ i → kgs M (kSF t) (5 * i + o) n ≤ 10000 * n := by
  intro n
  induction n with
  | zero => exact fun _ => Nat.le_refl 0
  | succ n ih =>
    intro hn
    have := ih (by omega)
    have := (T.2.2.2.1 n i (t n) o (by omega) hi (ht n (by omega)) hoi).2
    show kgs M (kSF t) (5 * i + o) n + M (kSF t n) (5 * i + o) ≤ _
    unfold kSF at *; omega
theorem kwN_bb {P : Nat} {on : Nat → Nat} {M : Nat → Nat → Nat} {H : Nat → Nat} {al ho zs : Nat → Int32} (T : kTb P on M H al ho zs) {t : Nat → Nat} : ∀ i, i ≤ P → kVal i on t → kwN M (kSF t) i ≤ 60000 * i := by
  intro i
  induction i with
  | zero => exact fun _ _ => Nat.le_refl 0
  | succ i ih =>
    intro hi ht
    have h1 := ih (by omega) (fun k hk => ht k (by omega))
    have h2 := kgs_b T (t := t) (i := i) (o := t i) (by omega) (fun k hk => ht k (by omega)) (ht i (by omega)) i (Nat.le_refl _)
    have := T.1
    rw [kwN_s]; unfold kSF at *; omega
theorem kgain_n {P : Nat} {on : Nat → Nat} {M : Nat → Nat → Nat} {H : Nat → Nat} {al ho zs pk : Nat → Int32} (T : kTb P on M H al ho zs) {t : Nat → Nat} {i o : Nat} (hi : i < P) (ht : kVal i on t) (hoi : o < on i) (hpk : ∀ x, x < i → pk x = nI (5 * x + t x)) : kgain al pk (nI i) (nI (5 * i + o)) = nI (kgs M (kSF t) (5 * i + o) i) := by
  have h5 := (T.2.1 i hi).2
  have h6 := T.1
  unfold kgain
  exact kups_i (by omega) (fun x (s : Int32) => s = nI (kgs M (kSF t) (5 * i + o) x)) (fun x s hx hs => by
    unfold kgai
    have a := T.2.2.2.1 x i (t x) o hx hi (ht x hx) hoi
    have b := (T.2.1 x (by omega)).2
    have c := ht x hx
    rw [hs, kat_nI (by omega) (by decide), hpk x hx, show nI (5 * i + o) * 30 + nI (5 * x + t x) = nI (30 * (5 * i + o) + (5 * x + t x)) from by rw [Int32.mul_comm]; exact kx_up, kat_nI (by omega) (by decide), a.1, nI_add]
    rfl) i 0 0 (by omega) rfl
theorem ix5 (i : Nat) : nI i * 5 = nI (5 * i) := by rw [Int32.mul_comm]; exact pk_mul 5 i
theorem kseek_s {P : Nat} {on : Nat → Nat} {M : Nat → Nat → Nat} {H : Nat → Nat} {al ho zs : Nat → Int32} (T : kTb P on M H al ho zs) :
    ∀ d i t best pk bp, i + d = 7 → i ≤ P → kVal i on t → (∀ x, x < i → pk x = nI (5 * x + t x)) → kBst P on (fun k o => 5 * k + o) M (fun s => kLx i s t) best bp →
      kBst P on (fun k o => 5 * k + o) M (fun s => kLx i s t ∨ kEq i s t) (ksek al ho zs (nI P) d (nI i) (nI (kwN M (kSF t) i)) (best, pk, bp)).1 (ksek al ho zs (nI P) d (nI i) (nI (kwN M (kSF t) i)) (best, pk, bp)).2.2 ∧ ∀ x, x < i → (ksek al ho zs (nI P) d (nI i) (nI (kwN M (kSF t) i)) (best, pk, bp)).2.1 x = nI (5 * x + t x) := by
  have hP := T.1
  have hS : ∀ s, kVal P on s → kwN M (fun k => 5 * k + s k) P ≤ 360000 := fun s hs => by
    have q : kwN M (fun k => 5 * k + s k) P ≤ 60000 * P := kwN_bb T P (Nat.le_refl _) hs
    omega
  intro d
  induction d with
  | zero => intro i t best pk bp h1 h2; omega
  | succ d ih =>
    intro i t best pk bp h1 h2 ht hpk hB
    show kBst P on (fun k o => 5 * k + o) M (fun s => kLx i s t ∨ kEq i s t) (kse2 al ho zs (nI P) (ksek al ho zs (nI P) d) (nI i) (nI (kwN M (kSF t) i)) (best, pk, bp)).1 (kse2 al ho zs (nI P) (ksek al ho zs (nI P) d) (nI i) (nI (kwN M (kSF t) i)) (best, pk, bp)).2.2 ∧ ∀ x, x < i → (kse2 al ho zs (nI P) (ksek al ho zs (nI P) d) (nI i) (nI (kwN M (kSF t) i)) (best, pk, bp)).2.1 x = nI (5 * x + t x)
    have hw := kwN_bb T i h2 ht
    have hH := T.2.2.2.2.1 i h2
    unfold kse2
    rw [if_neg (show ¬ 6 < nI i from nI_nlt (a := i) (b := i) (Nat.le_refl _) (by omega) |> fun _ => nI_nlt (b := i) (a := 6) (by omega) (by decide)), kat_nI (by omega) (by decide), hH.1, nI_add]
    by_cases c1 : ¬ best < nI (kwN M (kSF t) i + H i)
    · rw [if_pos c1]
      refine ⟨?_, hpk⟩
      rcases hB with ⟨a, _⟩ | ⟨z, a, b, c, e, f, g⟩
      · exact absurd (by rw [a, Int32.lt_iff_toInt_lt, nI_toInt (by omega), show (-1 : Int32).toInt = -1 by decide]; omega) c1
      · have hz := hS z a
        have c2 : kwN M (kSF t) i + H i ≤ kwN M (fun k => 5 * k + z k) P := by
          rcases Nat.lt_or_ge (kwN M (fun k => 5 * k + z k) P) (kwN M (kSF t) i + H i) with y | y
          · exact absurd (by rw [c]; exact nI_lt y (by omega)) c1
          · exact y
        have c3 : ∀ s, kVal P on s → kEq i s t → kwN M (fun k => 5 * k + s k) P ≤ kwN M (fun k => 5 * k + z k) P := fun s hs he => by
          have q1 : kwN M (fun k => 5 * k + s k) P ≤ kwN M (kSF s) i + H i := T.2.2.2.2.2.2 s hs i h2
          rw [kwN_c i (kSF_c he)] at q1; omega
        refine Or.inr ⟨z, a, Or.inl b, c, e, fun s hs w => ?_, fun s hs w hl => ?_⟩
        · rcases w with w | w
          · exact f s hs w
          · exact c3 s hs w
        · rcases w with w | w
          · exact g s hs w hl
          · exfalso
            have q : kLx P z s := kLx_up h2 (kLx_r (fun k hk => (w k hk).symm) b)
            exact kLx_ir (kLx_tr q hl)
    · rw [if_neg c1]
      have c1 := Classical.not_not.mp c1
      by_cases c4 : i = P
      · subst c4
        rw [if_pos (show ¬ nI i < nI i from nI_nlt (Nat.le_refl _) (by omega))]
        have hH0 := T.2.2.2.2.2.1
        rw [hH0, Nat.add_zero] at c1
        refine ⟨Or.inr ⟨t, ht, Or.inr (fun k _ => rfl), rfl, ?_, ?_, ?_⟩, hpk⟩
        · exact fun k hk => kups_i (by omega) (fun x (g : Nat → Int32) => ∀ k, k < x → g k = nI (5 * k + t k)) (fun x s hx hs k hk => by
            show kput 6 s (nI x) (kat 6 pk (nI x)) k = nI (5 * k + t k)
            rw [kat_nI (by omega) (by decide), kput_nI (by omega) (by decide), hpk x hx]
            by_cases e : k = x
            · rw [e, pk_us]
            · rw [pk_un e]; exact hs k (by omega)) i 0 bp (by omega) (fun k hk => absurd hk (by omega)) k hk
        · intro s hs w
          rcases w with w | w
          · rcases hB with ⟨_, a⟩ | ⟨z, a, b, c, e, f, g⟩
            · exact absurd w (a s hs)
            · have q1 : kwN M (fun k => 5 * k + s k) i ≤ kwN M (fun k => 5 * k + z k) i := f s hs w
              have q2 := hS z a
              have c : best = nI (kwN M (fun k => 5 * k + z k) i) := c
              rw [c] at c1
              have q3 := (nI_ltI (by omega) (by omega)).mp c1
              show kwN M (fun k => 5 * k + s k) i ≤ kwN M (kSF t) i
              omega
          · exact Nat.le_of_eq (kwN_c i (kSF_c w))
        · intro s hs w hl
          rcases w with w | w
          · rcases hB with ⟨_, a⟩ | ⟨z, a, b, c, e, f, g⟩
            · exact absurd w (a s hs)
            · have q1 : kwN M (fun k => 5 * k + s k) i ≤ kwN M (fun k => 5 * k + z k) i := f s hs w
              have q2 := hS z a
              have c : best = nI (kwN M (fun k => 5 * k + z k) i) := c
              rw [c] at c1
              have q3 := (nI_ltI (by omega) (by omega)).mp c1
              show kwN M (fun k => 5 * k + s k) i < kwN M (kSF t) i
              omega
          · exact absurd (kLx_l (fun k hk => (w k hk).symm) hl) kLx_ir
      · have hiP : i < P := by omega
        have h5 := (T.2.1 i hiP)
        rw [if_neg (Classical.not_not.mpr (nI_lt hiP (by omega))), kat_nI (by omega) (by decide), T.2.2.1 i hiP, ix5, nI_add]
        have L := kups_i (f := kse1 al (nI i) (nI (kwN M (kSF t) i)) (ksek al ho zs (nI P) d)) (b := 5 * i + on i) (by omega)
          (fun x (r : Int32 × (Nat → Int32) × (Nat → Int32)) => ∃ o, x = 5 * i + o ∧ o ≤ on i ∧ kBst P on (fun k o => 5 * k + o) M (fun s => kLx i s t ∨ (kEq i s t ∧ s i < o)) r.1 r.2.2 ∧ ∀ x, x < i → r.2.1 x = nI (5 * x + t x))
          (fun x r hx hr => by
            obtain ⟨o, rfl, ho, hb, hp⟩ := hr
            obtain ⟨best, pk, bp⟩ := r
            have hoi : o < on i := by omega
            unfold kse1
            dsimp only at hb hp ⊢
            have hp2 : ∀ x, x < i → kput 6 pk (nI i) (nI (5 * i + o)) x = nI (5 * x + t x) := fun x hx => by rw [kput_nI (by omega) (by decide), pk_un (by omega)]; exact hp x hx
            rw [kgain_n T hiP ht hoi hp2, nI_1, nI_add]
            have ht2 : kVal (i + 1) on (kset0 t i o) := fun k hk => by
              by_cases e : k = i
              · rw [e, kset0_e]; exact hoi
              · rw [kset0_n k (by omega)]; exact ht k (by omega)
            have e1 : kwN M (kSF t) i + kgs M (kSF t) (5 * i + o) i = kwN M (kSF (kset0 t i o)) (i + 1) := by
              rw [kwN_s, kwN_c i (kSF_c (fun k hk => (kset0_n (o := o) k hk).symm)), kgs_c i (kSF_c (fun k hk => (kset0_n (o := o) k hk).symm))]
              unfold kSF; rw [kset0_e]
            rw [e1]
            have Q := ih (i + 1) (kset0 t i o) best (kput 6 pk (nI i) (nI (5 * i + o))) bp (by omega) (by omega) ht2 (fun x hx => by
              by_cases e : x = i
              · rw [e, kput_nI (by omega) (by decide), pk_us, kset0_e]
              · rw [hp2 x (by omega), kset0_n x (by omega)]) (kBst_i hb (fun s hs => by rw [kLx_1, kset0_L, kset0_E, kset0_e]))
            refine ⟨o + 1, by omega, by omega, kBst_i Q.1 (fun s hs => ?_), fun x hx => by rw [Q.2 x (by omega), kset0_n x hx]⟩
            rw [kLx_1, kEq_1, kset0_L, kset0_E, kset0_e]
            constructor
            · rintro ((a | ⟨a, b⟩) | ⟨a, b⟩)
              · exact Or.inl a
              · exact Or.inr ⟨a, by omega⟩
              · exact Or.inr ⟨a, by omega⟩
            · rintro (a | ⟨a, b⟩)
              · exact Or.inl (Or.inl a)
              · by_cases e : s i = o
                · exact Or.inr ⟨a, e⟩
                · exact Or.inl (Or.inr ⟨a, by omega⟩)) (on i) (5 * i) (best, pk, bp) rfl
          ⟨0, rfl, by omega, kBst_i hB (fun s hs => ⟨fun a => Or.inl a, fun a => a.elim id (fun b => absurd b.2 (by omega))⟩), hpk⟩
        obtain ⟨o, e, ho, hb, hp⟩ := L
        have e : o = on i := by omega
        subst e
        exact ⟨kBst_i hb (fun s hs => ⟨fun a => a.elim Or.inl (fun b => Or.inr b.1), fun a => a.elim Or.inl (fun b => Or.inr ⟨b, hs i hiP⟩)⟩), hp⟩
theorem kgre_s {P : Nat} {on : Nat → Nat} {M : Nat → Nat → Nat} {H : Nat → Nat} {al ho zs : Nat → Int32} (T : kTb P on M H al ho zs) :
    ∀ d i t g, i + d = 7 → i ≤ P → kVal i on t → (∀ x, x < i → g x = nI (5 * x + t x)) →
      ∃ V, (kgre al zs (nI P) d (nI i) (nI (kwN M (kSF t) i)) g).1 = nI V ∧ (∀ s, kVal P on s → kEq i s t → kwN M (kSF s) P ≤ V) ∧ (∃ s, kVal P on s ∧ kEq i s t ∧ kwN M (kSF s) P = V) ∧ ∀ x, x < i → (kgre al zs (nI P) d (nI i) (nI (kwN M (kSF t) i)) g).2 x = nI (5 * x + t x) := by
  have hP := T.1
  have hS : ∀ s, kVal P on s → kwN M (kSF s) P ≤ 360000 := fun s hs => by
    have q : kwN M (kSF s) P ≤ 60000 * P := kwN_bb T P (Nat.le_refl _) hs
    omega
  intro d
  induction d with
  | zero => intro i t g h1 h2; omega
  | succ d ih =>
    intro i t g h1 h2 ht hg
    show ∃ V, (kgr2 al zs (nI P) (kgre al zs (nI P) d) (nI i) (nI (kwN M (kSF t) i)) g).1 = nI V ∧ _ ∧ _ ∧ ∀ x, x < i → (kgr2 al zs (nI P) (kgre al zs (nI P) d) (nI i) (nI (kwN M (kSF t) i)) g).2 x = nI (5 * x + t x)
    unfold kgr2
    rw [if_neg (show ¬ 6 < nI i from nI_nlt (b := i) (a := 6) (by omega) (by decide) |> fun h => h)]
    by_cases c4 : i = P
    · subst c4
      rw [if_pos (show ¬ nI i < nI i from nI_nlt (Nat.le_refl _) (by omega))]
      exact ⟨_, rfl, fun s _ he => Nat.le_of_eq (kwN_c i (kSF_c he)), ⟨t, ht, fun _ _ => rfl, rfl⟩, hg⟩
    · have hiP : i < P := by omega
      have h5 := (T.2.1 i hiP)
      rw [if_neg (Classical.not_not.mpr (nI_lt hiP (by omega))), kat_nI (by omega) (by decide), T.2.2.1 i hiP, ix5, nI_add]
      have L := kups_i (f := kgr1 al (nI i) (nI (kwN M (kSF t) i)) (kgre al zs (nI P) d)) (b := 5 * i + on i) (by omega)
        (fun x (r : Int32 × (Nat → Int32)) => ∃ o V, x = 5 * i + o ∧ o ≤ on i ∧ r.1 = nI V ∧ (∀ s, kVal P on s → kEq i s t → s i < o → kwN M (kSF s) P ≤ V) ∧ ((o = 0 ∧ V = 0) ∨ ∃ s, kVal P on s ∧ kEq i s t ∧ kwN M (kSF s) P = V) ∧ ∀ x, x < i → r.2 x = nI (5 * x + t x))
        (fun x r hx hr => by
          obtain ⟨o, V, rfl, ho, hv, hb, hc, hp⟩ := hr
          obtain ⟨best, pk⟩ := r
          have hoi : o < on i := by omega
          unfold kgr1
          dsimp only at hv hp ⊢
          have hp2 : ∀ x, x < i → kput 6 pk (nI i) (nI (5 * i + o)) x = nI (5 * x + t x) := fun x hx => by rw [kput_nI (by omega) (by decide), pk_un (by omega)]; exact hp x hx
          rw [kgain_n T hiP ht hoi hp2, nI_1, nI_add]
          have ht2 : kVal (i + 1) on (kset0 t i o) := fun k hk => by
            by_cases e : k = i
            · rw [e, kset0_e]; exact hoi
            · rw [kset0_n k (by omega)]; exact ht k (by omega)
          have e1 : kwN M (kSF t) i + kgs M (kSF t) (5 * i + o) i = kwN M (kSF (kset0 t i o)) (i + 1) := by
            rw [kwN_s, kwN_c i (kSF_c (fun k hk => (kset0_n (o := o) k hk).symm)), kgs_c i (kSF_c (fun k hk => (kset0_n (o := o) k hk).symm))]
            unfold kSF; rw [kset0_e]
          rw [e1]
          obtain ⟨U, u1, u2, ⟨z, z1, z2, z3⟩, u4⟩ := ih (i + 1) (kset0 t i o) (kput 6 pk (nI i) (nI (5 * i + o))) (by omega) (by omega) ht2 (fun x hx => by
            by_cases e : x = i
            · rw [e, kput_nI (by omega) (by decide), pk_us, kset0_e]
            · rw [hp2 x (by omega), kset0_n x (by omega)])
          rw [u1, hv]
          have hU : U ≤ 360000 := by rw [← z3]; exact hS z z1
          have hV : V ≤ 360000 := by
            rcases hc with ⟨_, c⟩ | ⟨s, s1, _, s3⟩
            · omega
            · rw [← s3]; exact hS s s1
          have zE := kset0_E.mp (kEq_1.mp z2).1
          have le : ∀ s, kVal P on s → kEq i s t → s i < o + 1 → kwN M (kSF s) P ≤ V ∨ kwN M (kSF s) P ≤ U := fun s hs he hl => by
            by_cases e : s i = o
            · exact Or.inr (u2 s hs (kEq_1.mpr ⟨kset0_E.mpr he, by rw [kset0_e]; exact e⟩))
            · exact Or.inl (hb s hs he (by omega))
          have pk2 : ∀ x, x < i → (kgre al zs (nI P) d (nI (i + 1)) (nI (kwN M (kSF (kset0 t i o)) (i + 1))) (kput 6 pk (nI i) (nI (5 * i + o)))).2 x = nI (5 * x + t x) := fun x hx => by rw [u4 x (by omega), kset0_n x hx]
          rcases Nat.lt_or_ge V U with c | c
          · rw [if_pos (nI_lt c (by omega))]
            exact ⟨o + 1, U, by omega, by omega, rfl, fun s hs he hl => by rcases le s hs he hl with q | q <;> omega, Or.inr ⟨z, z1, zE, z3⟩, pk2⟩
          · rw [if_neg (nI_nlt c (by omega))]
            refine ⟨o + 1, V, by omega, by omega, rfl, fun s hs he hl => by rcases le s hs he hl with q | q <;> omega, Or.inr ?_, pk2⟩
            rcases hc with ⟨_, c2⟩ | hc
            · exact ⟨z, z1, zE, by omega⟩
            · exact hc) (on i) (5 * i) (0, g) rfl
        ⟨0, 0, rfl, by omega, rfl, fun s _ _ h => absurd h (by omega), Or.inl ⟨rfl, rfl⟩, hg⟩
      obtain ⟨o, V, e, ho, hv, hb, hc, hp⟩ := L
      have e : o = on i := by omega
      subst e
      refine ⟨V, hv, fun s hs he => hb s hs he (hs i hiP), ?_, hp⟩
      rcases hc with ⟨c, _⟩ | hc
      · omega
      · exact hc
