/-! p28: what above, below, mass and depth of the senses say of each other. -/
section PM
variable {pr : Int32} {ps cs cv ms dp sx : Nat → Int32} {cn rk : Nat → Nat}
theorem g_rk (hn : kNI pr ps cs cn rk) : ∀ n s t, s < 30 → kpt pr ps n s t = true → rk t + n ≤ rk s := by
  intro n
  induction n with
  | zero =>
    intro s t _ h
    have h : decide (s = t) = true := h
    rw [of_decide_eq_true h]; omega
  | succ n ih =>
    intro s t hs h
    obtain ⟨q, hq, h1, h2⟩ := kpt_o h
    have h3 := ih q t hq h2
    unfold kE at h1
    rw [Bool.and_eq_true] at h1
    have h4 := hn.2.1 s q hs h1.2
    omega
theorem g_R {s t : Nat} (hs : s < 30) (ht : t < 30) : kRe pr ps 30 s t = true ↔ ∃ n, kpt pr ps n s t = true :=
  ⟨fun h => (kRe_i.mp h).elim fun n h => ⟨n, h.2⟩, fun ⟨_, h⟩ => kRe_30 hs ht h⟩
theorem g_app : ∀ n m s t u, kpt pr ps n s t = true → kpt pr ps m t u = true → kpt pr ps (n + m) s u = true := by
  intro n
  induction n with
  | zero =>
    intro m s t u h1 h2
    have h1 : decide (s = t) = true := h1
    rw [of_decide_eq_true h1, Nat.zero_add]; exact h2
  | succ n ih =>
    intro m s t u h1 h2
    obtain ⟨q, hq, a, b⟩ := kpt_o h1
    rw [show n + 1 + m = (n + m) + 1 by omega]
    exact kpt_s hq a (ih m q t u b h2)
theorem g_tr {s t u : Nat} (hs : s < 30) (ht : t < 30) (hu : u < 30) (h1 : kRe pr ps 30 s t = true) (h2 : kRe pr ps 30 t u = true) : kRe pr ps 30 s u = true := by
  obtain ⟨n, a⟩ := (g_R hs ht).mp h1
  obtain ⟨m, b⟩ := (g_R ht hu).mp h2
  exact (g_R hs hu).mpr ⟨n + m, g_app n m s t u a b⟩
theorem g_p0 {s : Nat} : kpt pr ps 0 s s = true := decide_eq_true rfl
theorem g_rf {s : Nat} (hs : s < 30) : kRe pr ps 30 s s = true := kRe_30 hs hs (n := 0) g_p0
theorem g_p1 {s t : Nat} (ht : t < 30) (hp : bt pr s = true) (h : bt (ps s) t = true) : kpt pr ps 1 s t = true := kpt_s ht (by unfold kE; rw [hp, h]; rfl) g_p0
theorem g_acy {s t : Nat} (hn : kNI pr ps cs cn rk) (hs : s < 30) (ht : t < 30) (h1 : kRe pr ps 30 s t = true) (h2 : kRe pr ps 30 t s = true) : s = t := by
  obtain ⟨n, a⟩ := (g_R hs ht).mp h1
  obtain ⟨m, b⟩ := (g_R ht hs).mp h2
  have h3 := g_rk hn n s t hs a
  have h4 := g_rk hn m t s ht b
  have e : n = 0 := by omega
  subst e
  exact of_decide_eq_true (show decide (s = t) = true from a)
theorem g_fst {s t n : Nat} (h : kpt pr ps (n + 1) s t = true) : ∃ q, q < 30 ∧ bt pr s = true ∧ bt (ps s) q = true ∧ kpt pr ps n q t = true := by
  obtain ⟨q, hq, h1, h2⟩ := kpt_o h
  unfold kE at h1
  rw [Bool.and_eq_true] at h1
  exact ⟨q, hq, h1.1, h1.2, h2⟩
/-- above, below: the sets -/
def kU (cv : Nat → Int32) (a : Nat) : Int32 := cv a &&& (kbit (nI a) ^^^ (-1))
def kB (cv : Nat → Int32) (a : Nat) : Int32 := kcvd cv (nI a) 30 &&& (kbit (nI a) ^^^ (-1))
theorem kU_b (hs : kST pr ps cv dp sx 30) {a : Nat} (ha : a < 30) (hp : bt pr a = true) (t : Nat) : bt (kU cv a) t = true ↔ t < 30 ∧ kRe pr ps 30 a t = true ∧ ¬ a = t := by
  unfold kU
  rw [i_anb ha, (hs a ha).1, Bool.and_eq_true, decide_eq_true_iff]
  unfold kCv
  rw [hp, Bool.true_and, Bool.and_eq_true, decide_eq_true_iff, and_assoc]
theorem kB_b (hs : kST pr ps cv dp sx 30) {a : Nat} (ha : a < 30) (t : Nat) : bt (kB cv a) t = true ↔ t < 30 ∧ bt pr t = true ∧ kRe pr ps 30 t a = true ∧ ¬ a = t := by
  unfold kB
  rw [i_anb ha, Bool.and_eq_true, decide_eq_true_iff]
  by_cases h32 : t < 32
  · rw [kcvd_b ha 30 (Nat.le_refl _) t h32, Bool.and_eq_true, decide_eq_true_iff]
    constructor
    · rintro ⟨⟨h1, h2⟩, h3⟩
      rw [(hs t h1).1] at h2
      unfold kCv at h2
      rw [Bool.and_eq_true, Bool.and_eq_true] at h2
      exact ⟨h1, h2.1, h2.2.2, h3⟩
    · rintro ⟨h1, h2, h3, h4⟩
      refine ⟨⟨h1, ?_⟩, h4⟩
      rw [(hs t h1).1]
      unfold kCv
      rw [h2, h3, decide_eq_true ha]; rfl
  · rw [b_big (by omega)]
    exact ⟨fun h => absurd h.1 (by decide), fun h => absurd h.1 (by omega)⟩
theorem b_f {x : Int32} {t : Nat} (h : ¬ bt x t = true) : bt x t = false := by
  cases e : bt x t with
  | true => exact absurd e h
  | false => rfl
theorem b_f2 {p : Bool} (h : ¬ p = true) : p = false := by
  cases p with
  | true => exact absurd rfl h
  | false => rfl
theorem kS_dis (hn : kNI pr ps cs cn rk) (hs : kST pr ps cv dp sx 30) {a : Nat} (ha : a < 30) (hp : bt pr a = true) : kU cv a &&& kB cv a = 0 := by
  refine b_eq0.mpr (fun t _ => b_f (fun z => ?_))
  rw [b_and, Bool.and_eq_true] at z
  obtain ⟨h1, h2, h3⟩ := (kU_b hs ha hp t).mp z.1
  obtain ⟨_, _, h5, _⟩ := (kB_b hs ha t).mp z.2
  exact h3 (g_acy hn ha h1 h2 h5)
theorem kS_self (hs : kST pr ps cv dp sx 30) {a : Nat} (ha : a < 30) (hp : bt pr a = true) : ((kU cv a ||| kB cv a) >>> (nI a &&& 31)) &&& 1 = 0 := by
  rw [b_sar (by omega), b_or]
  have h1 : bt (kU cv a) a = false := b_f (fun z => ((kU_b hs ha hp a).mp z).2.2 rfl)
  have h2 : bt (kB cv a) a = false := b_f (fun z => ((kB_b hs ha a).mp z).2.2.2 rfl)
  rw [h1, h2]; rfl
theorem kS_sub (hn : kNI pr ps cs cn rk) (hs : kST pr ps cv dp sx 30) {a : Nat} (ha : a < 30) (hp : bt pr a = true) : pr ||| kU cv a ||| kB cv a = pr := by
  refine b_ext (fun t _ => ?_)
  rw [b_or, b_or]
  cases e : bt pr t with
  | true => rfl
  | false =>
    have h1 : bt (kU cv a) t = false := b_f (fun z => by
      obtain ⟨x, y, _⟩ := (kU_b hs ha hp t).mp z
      rw [(kRe_pr hn.1 hp ha y).1] at e; cases e)
    have h2 : bt (kB cv a) t = false := b_f (fun z => by
      obtain ⟨_, y, _⟩ := (kB_b hs ha t).mp z
      rw [y] at e; cases e)
    rw [h1, h2]; rfl
/-- one above: it has this one below it, and no less mass -/
theorem kS_abv (hs : kST pr ps cv dp sx 30) {a j : Nat} (ha : a < 30) (hp : bt pr a = true) (hj : bt (kU cv a) j = true) : (kB cv j >>> (nI a &&& 31)) &&& 1 = 1 := by
  obtain ⟨h1, h2, h3⟩ := (kU_b hs ha hp j).mp hj
  rw [b_sar (by omega), (kB_b hs h1 a).mpr ⟨ha, hp, h2, fun e => h3 e.symm⟩]; rfl
theorem kS_mss (hn : kNI pr ps cs cn rk) (hs : kSt pr ps cv ms dp sx cn) {a j : Nat} (ha : a < 30) (hp : bt pr a = true) (hj : bt (kU cv a) j = true) : ¬ ms j < ms a := by
  obtain ⟨h1, h2, h3⟩ := (kU_b hs.1 ha hp j).mp hj
  rw [hs.2 j h1, hs.2 a ha]
  refine nI_nlt ?_ (Nat.lt_of_le_of_lt (kMs_b (fun k hk => (hn.2.2 k hk).2)) (by decide))
  refine kSu_m 30 (fun k hk h => ?_)
  unfold kCv at h ⊢
  rw [Bool.and_eq_true, Bool.and_eq_true] at h
  rw [h.1, decide_eq_true h1, g_tr hk ha h1 h.2.2 h2]; rfl
/-- what the parents and theirs give -/
def kdue (P : Int32) (cv : Nat → Int32) : Nat → Int32
  | 0 => P
  | j + 1 => if bt P j = true then kdue P cv j ||| kU cv j else kdue P cv j
theorem kdue_b {P : Int32} : ∀ n t, bt (kdue P cv n) t = true ↔ bt P t = true ∨ ∃ q, q < n ∧ bt P q = true ∧ bt (kU cv q) t = true := by
  intro n
  induction n with
  | zero => exact fun t => ⟨Or.inl, fun h => h.elim id (fun ⟨q, hq, _⟩ => absurd hq (by omega))⟩
  | succ n ih =>
    intro t
    unfold kdue
    by_cases c : bt P n = true
    · rw [if_pos c, b_or, Bool.or_eq_true, ih]
      constructor
      · rintro ((h | ⟨q, hq, h⟩) | h)
        · exact Or.inl h
        · exact Or.inr ⟨q, by omega, h⟩
        · exact Or.inr ⟨n, by omega, c, h⟩
      · rintro (h | ⟨q, hq, h1, h2⟩)
        · exact Or.inl (Or.inl h)
        · by_cases e : q = n
          · subst e; exact Or.inr h2
          · exact Or.inl (Or.inr ⟨q, by omega, h1, h2⟩)
    · rw [if_neg c, ih]
      constructor
      · rintro (h | ⟨q, hq, h⟩)
        · exact Or.inl h
        · exact Or.inr ⟨q, by omega, h⟩
      · rintro (h | ⟨q, hq, h1, h2⟩)
        · exact Or.inl h
        · by_cases e : q = n
          · subst e; exact absurd h1 c
          · exact Or.inr ⟨q, by omega, h1, h2⟩
theorem kdue_e (hn : kNI pr ps cs cn rk) (hs : kST pr ps cv dp sx 30) {a : Nat} (ha : a < 30) (hp : bt pr a = true) : kdue (ps a) cv 30 = kU cv a := by
  have hq : ∀ q, bt (ps a) q = true → q < 30 ∧ bt pr q = true := fun q h => ⟨(hn.1.2 a ha q h).1, (hn.1.2 a ha q h).2.1⟩
  refine b_ext (fun t _ => ?_)
  apply Bool.eq_iff_iff.mpr
  rw [kdue_b, kU_b hs ha hp]
  constructor
  · rintro (h | ⟨q, h1, h2, h3⟩)
    · have h30 := (hq t h).1
      exact ⟨h30, kRe_30 ha h30 (g_p1 h30 hp h), fun e => by subst e; have := hn.2.1 a a ha h; omega⟩
    · obtain ⟨x, y, z⟩ := (kU_b hs h1 (hq q h2).2 t).mp h3
      refine ⟨x, g_tr ha h1 x (kRe_30 ha h1 (g_p1 h1 hp h2)) y, fun e => ?_⟩
      subst e
      have := hn.2.1 a q ha h2
      obtain ⟨m, hm⟩ := (g_R h1 ha).mp y
      have := g_rk hn m q a h1 hm
      omega
  · rintro ⟨h1, h2, h3⟩
    obtain ⟨n, hm⟩ := (g_R ha h1).mp h2
    cases n with
    | zero => exact absurd (of_decide_eq_true (show decide (a = t) = true from hm)) h3
    | succ n =>
      obtain ⟨q, q1, _, q3, q4⟩ := g_fst hm
      by_cases e : q = t
      · subst e; exact Or.inl q3
      · exact Or.inr ⟨q, q1, q3, (kU_b hs q1 (hq q q3).2 t).mpr ⟨h1, kRe_30 q1 h1 q4, e⟩⟩
/-- depth by the parents' -/
def kdpt (P : Int32) (dp : Nat → Int32) : Nat → Int32
  | 0 => if P = 0 then 0 else 99
  | j + 1 => if bt P j = true then (if dp j + 1 < kdpt P dp j then dp j + 1 else kdpt P dp j) else kdpt P dp j
theorem kd_lst {s t m : Nat} (h : kpt pr ps m s t = true) (hs : s < 30) (ht : t < 30) : kd pr ps s t ≤ m := by
  have h30 := kd_30 (kRe_30 hs ht h)
  rcases Nat.lt_or_ge m (kd pr ps s t) with z | z
  · exfalso
    have h2 := h30.2
    unfold kLv at h2
    rw [Bool.and_eq_true, Bool.not_eq_true'] at h2
    rw [kRe_i.mpr ⟨m, z, h⟩] at h2
    exact absurd h2.2 (by decide)
  · exact z
theorem kd_pt {s t : Nat} (hs : s < 30) (ht : t < 30) (h : kd pr ps s t < 30) : kpt pr ps (kd pr ps s t) s t = true := by
  cases e : kRe pr ps 30 s t with
  | false => rw [kd_no hs ht e] at h; omega
  | true =>
    have h2 := (kd_30 e).2
    unfold kLv at h2
    rw [Bool.and_eq_true] at h2
    exact h2.1
theorem kmn_a {v : Nat → Nat} : ∀ n, kmn v n = 1000 ∨ ∃ k, k < n ∧ v k = kmn v n := by
  intro n
  induction n with
  | zero => exact Or.inl rfl
  | succ n ih =>
    show (if kmn v n ≤ v n then kmn v n else v n) = 1000 ∨ ∃ k, k < n + 1 ∧ v k = if kmn v n ≤ v n then kmn v n else v n
    split
    · exact ih.imp id (fun ⟨k, h1, h2⟩ => ⟨k, by omega, h2⟩)
    · exact Or.inr ⟨n, by omega, rfl⟩
/-- the depth is reached -/
theorem kDp_x (hn : kNI pr ps cs cn rk) (hs : kST pr ps cv dp sx 30) {a : Nat} (ha : a < 30) (hp : bt pr a = true) : ∃ t, t < 30 ∧ bt pr t = true ∧ ps t = 0 ∧ kpt pr ps (kDp pr ps a) a t = true := by
  have h1 := (kr_depth hn hs ha hp).2
  rcases kmn_a (v := kdv1 pr ps a) 30 with z | ⟨t, h2, h3⟩
  · have : kDp pr ps a = 1000 := z
    omega
  · have h3 : kdv1 pr ps a t = kDp pr ps a := h3
    unfold kdv1 at h3
    by_cases c1 : bt pr t = false
    · rw [if_pos c1] at h3; omega
    rw [if_neg c1] at h3
    by_cases c2 : ps t = 0
    · rw [if_neg (Classical.not_not.mpr c2)] at h3
      refine ⟨t, h2, ?_, c2, ?_⟩
      · cases e : bt pr t with
        | true => rfl
        | false => exact absurd e c1
      · rw [← h3]; exact kd_pt ha h2 (by omega)
    · rw [if_pos c2] at h3; omega
theorem kDp_l {a t m : Nat} (ha : a < 30) (ht : t < 30) (hp : bt pr t = true) (h0 : ps t = 0) (h : kpt pr ps m a t = true) : kDp pr ps a ≤ m := by
  have h1 : kDp pr ps a ≤ kdv1 pr ps a t := (kmn_l (v := kdv1 pr ps a) 30).2 t ht
  unfold kdv1 at h1
  rw [if_neg (by rw [hp]; decide), if_neg (Classical.not_not.mpr h0)] at h1
  exact Nat.le_trans h1 (kd_lst h ha ht)
theorem kdpt_e (hn : kNI pr ps cs cn rk) (hs : kST pr ps cv dp sx 30) {a : Nat} (ha : a < 30) (hp : bt pr a = true) : dp a = kdpt (ps a) dp 30 := by
  have hq : ∀ q, bt (ps a) q = true → q < 30 ∧ bt pr q = true := fun q h => ⟨(hn.1.2 a ha q h).1, (hn.1.2 a ha q h).2.1⟩
  rw [(kr_depth hn hs ha hp).1]
  by_cases c : ps a = 0
  · have e : ∀ n, kdpt (ps a) dp n = 0 := by
      intro n
      induction n with
      | zero => exact if_pos c
      | succ n ih =>
        show (if bt (ps a) n = true then _ else kdpt (ps a) dp n) = 0
        rw [if_neg (by rw [c, b_0]; decide)]; exact ih
    have h0 := kDp_l (m := 0) ha ha hp c g_p0
    rw [e, show kDp pr ps a = 0 by omega]; rfl
  · have key : ∀ n, n ≤ 30 → ∃ m, kdpt (ps a) dp n = nI m ∧ m ≤ 99 ∧ (∀ q, q < n → bt (ps a) q = true → m ≤ kDp pr ps q + 1) ∧ (m = 99 ∨ ∃ q, q < n ∧ bt (ps a) q = true ∧ m = kDp pr ps q + 1) := by
      intro n
      induction n with
      | zero => exact fun _ => ⟨99, if_neg c, Nat.le_refl _, fun q hq _ => absurd hq (by omega), Or.inl rfl⟩
      | succ n ih =>
        intro hn30
        obtain ⟨m, m1, m2, m3, m4⟩ := ih (by omega)
        show ∃ m, (if bt (ps a) n = true then (if dp n + 1 < kdpt (ps a) dp n then dp n + 1 else kdpt (ps a) dp n) else kdpt (ps a) dp n) = nI m ∧ _
        by_cases b : bt (ps a) n = true
        · have D := kr_depth hn hs (show n < 30 by omega) (hq n b).2
          rw [if_pos b, m1, D.1, nI_1]
          rcases Nat.lt_or_ge (kDp pr ps n + 1) m with z | z
          · rw [if_pos (nI_lt z (by omega))]
            refine ⟨_, rfl, by omega, fun q h1 h2 => ?_, Or.inr ⟨n, by omega, b, rfl⟩⟩
            by_cases e : q = n
            · subst e; exact Nat.le_refl _
            · have := m3 q (by omega) h2; omega
          · rw [if_neg (nI_nlt z (by omega))]
            refine ⟨_, rfl, m2, fun q h1 h2 => ?_, m4.imp id (fun ⟨q, h1, h2⟩ => ⟨q, by omega, h2⟩)⟩
            by_cases e : q = n
            · subst e; exact z
            · exact m3 q (by omega) h2
        · rw [if_neg b]
          refine ⟨m, m1, m2, fun q h1 h2 => ?_, m4.imp id (fun ⟨q, h1, h2⟩ => ⟨q, by omega, h2⟩)⟩
          by_cases e : q = n
          · subst e; exact absurd h2 b
          · exact m3 q (by omega) h2
    obtain ⟨m, m1, m2, m3, m4⟩ := key 30 (Nat.le_refl _)
    rw [m1]
    -- a way to the depth goes by a parent
    obtain ⟨t, t1, t2, t3, t4⟩ := kDp_x hn hs ha hp
    have lo : m ≤ kDp pr ps a := by
      generalize kDp pr ps a = d at t4 ⊢
      cases d with
      | zero => exact absurd (by rw [of_decide_eq_true (show decide (a = t) = true from t4)]; exact t3) c
      | succ d =>
        obtain ⟨q, q1, _, q3, q4⟩ := g_fst t4
        have h1 := kDp_l q1 t1 t2 t3 q4
        have h2 := m3 q q1 q3
        omega
    have hi : kDp pr ps a ≤ m := by
      rcases m4 with z | ⟨q, q1, q2, q3⟩
      · have := (kr_depth hn hs ha hp).2; omega
      · obtain ⟨u, u1, u2, u3, u4⟩ := kDp_x hn hs q1 (hq q q2).2
        rw [q3]
        exact kDp_l ha u1 u2 u3 (kpt_s q1 (by unfold kE; rw [hp, q2]; rfl) u4)
    rw [show kDp pr ps a = m by omega]
end PM
