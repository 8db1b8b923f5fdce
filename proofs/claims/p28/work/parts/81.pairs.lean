/-! p28: the shared sense, the distance and the likeness of two senses. -/
theorem ktel_m {ms dp : Nat → Int32} {z : Int32} : ∀ n, n ≤ 30 → (ktel ms dp z n = -1 ∧ ∀ k, k < n → bt z k = false) ∨ ∃ c, c < n ∧ ktel ms dp z n = nI c ∧ bt z c = true ∧ ∀ k, k < n → bt z k = true → ¬ ms k < ms c := by
  intro n
  induction n with
  | zero => exact fun _ => Or.inl ⟨rfl, fun k hk => absurd hk (by omega)⟩
  | succ n ih =>
    intro hn
    have ih := ih (by omega)
    have e : ktel ms dp z (n + 1) = if nB (bt z n) = 0 then ktel ms dp z n else if ktel ms dp z n = -1 then nI n else if nB (ksay ms dp (nI n) (ktel ms dp z n)) = 0 then ktel ms dp z n else nI n := by
      rw [← khas_nI (z := z) (show n < 30 by omega)]; rfl
    rw [e]
    cases b : bt z n with
    | false =>
      rw [if_pos (show nB false = 0 from rfl)]
      rcases ih with ⟨i1, i2⟩ | ⟨c, c1, c2, c3, c4⟩
      · refine Or.inl ⟨i1, fun k hk => ?_⟩
        by_cases ek : k = n
        · subst ek; exact b
        · exact i2 k (by omega)
      · refine Or.inr ⟨c, by omega, c2, c3, fun k hk h => ?_⟩
        by_cases ek : k = n
        · subst ek; rw [b] at h; cases h
        · exact c4 k (by omega) h
    | true =>
      rw [if_neg (show ¬ nB true = 0 by decide)]
      rcases ih with ⟨i1, i2⟩ | ⟨c, c1, c2, c3, c4⟩
      · rw [if_pos i1]
        refine Or.inr ⟨n, by omega, rfl, b, fun k hk h => ?_⟩
        by_cases ek : k = n
        · subst ek; exact Int32.lt_irrefl
        · rw [i2 k (by omega)] at h; cases h
      · rw [c2, if_neg (nI_neg1 c (by omega))]
        cases sy : ksay ms dp (nI n) (nI c) with
        | false =>
          rw [if_pos (show nB false = 0 from rfl)]
          refine Or.inr ⟨c, by omega, rfl, c3, fun k hk h => ?_⟩
          by_cases ek : k = n
          · subst ek
            unfold ksay at sy
            rw [kat_nI (by omega) (by decide), kat_nI (by omega) (by decide)] at sy
            exact fun w => absurd (of_decide_eq_false sy) (fun q => q (Or.inl w))
          · exact c4 k (by omega) h
        | true =>
          rw [if_neg (show ¬ nB true = 0 by decide)]
          unfold ksay at sy
          rw [kat_nI (by omega) (by decide), kat_nI (by omega) (by decide)] at sy
          have sy := of_decide_eq_true sy
          have le : ¬ ms c < ms n := by
            rcases sy with w | ⟨w, _⟩
            · intro q
              rw [Int32.lt_iff_toInt_lt] at q w
              omega
            · rw [w]; exact Int32.lt_irrefl
          refine Or.inr ⟨n, by omega, rfl, b, fun k hk h => ?_⟩
          by_cases ek : k = n
          · subst ek; exact Int32.lt_irrefl
          · have := c4 k (by omega) h
            intro q
            rw [Int32.lt_iff_toInt_lt] at q this le
            omega
theorem b_com (x y : Int32) : x &&& y = y &&& x := b_ext (fun i _ => by rw [b_and, b_and, Bool.and_comm])
section PPP
variable {pr : Int32} {ps cs cv ms dp sx : Nat → Int32} {cn rk : Nat → Nat}
theorem kU_or (hs : kST pr ps cv dp sx 30) {a : Nat} (ha : a < 30) (hp : bt pr a = true) : kU cv a ||| (1 <<< (nI a &&& 31)) = cv a := by
  rw [← kbit_nI ha]
  unfold kU
  refine b_ext (fun k hk => ?_)
  rw [b_or, i_anb ha, kbit_b ha hk]
  by_cases e : a = k
  · subst e
    have : bt (cv a) a = true := by
      rw [(hs a ha).1]
      unfold kCv
      rw [hp, decide_eq_true ha, g_rf ha]; rfl
    rw [this, decide_eq_true rfl, Bool.or_true]
  · rw [decide_eq_false e, decide_eq_true e, Bool.and_true, Bool.or_false]
theorem kZ_both (hs : kST pr ps cv dp sx 30) {a b : Nat} (ha : a < 30) (hb : b < 30) (hp : bt pr a = true) (hq : bt pr b = true) : (kU cv a ||| (1 <<< (nI a &&& 31))) &&& (kU cv b ||| (1 <<< (nI b &&& 31))) = cv a &&& cv b := by
  rw [kU_or hs ha hp, kU_or hs hb hq]
theorem kZ_b (hn : kNI pr ps cs cn rk) (hs : kST pr ps cv dp sx 30) {a b t : Nat} (ha : a < 30) (hb : b < 30) (hp : bt pr a = true) (h : bt (cv a &&& cv b) t = true) : t < 30 ∧ bt pr t = true := by
  rw [b_and, Bool.and_eq_true, (hs a ha).1] at h
  have h := h.1
  unfold kCv at h
  rw [Bool.and_eq_true, Bool.and_eq_true, decide_eq_true_iff] at h
  exact ⟨h.2.1, (kRe_pr hn.1 hp ha h.2.2).1⟩
/-- the shared sense: none where nothing covers both; else one that does, and none that does has less mass -/
theorem kZ_tel (hn : kNI pr ps cs cn rk) (hs : kST pr ps cv dp sx 30) {a b : Nat} (ha : a < 30) (hb : b < 30) (hp : bt pr a = true) : (cv a &&& cv b = 0 ∧ ktel ms dp (cv a &&& cv b) 30 = -1) ∨ ∃ c, c < 30 ∧ bt pr c = true ∧ ktel ms dp (cv a &&& cv b) 30 = nI c ∧ bt (cv a &&& cv b) c = true ∧ (∀ t, bt (cv a &&& cv b) t = true → ¬ ms t < ms c) ∧ ¬ cv a &&& cv b = 0 := by
  rcases ktel_m (ms := ms) (dp := dp) (z := cv a &&& cv b) 30 (Nat.le_refl _) with ⟨i1, i2⟩ | ⟨c, c1, c2, c3, c4⟩
  · refine Or.inl ⟨b_eq0.mpr (fun k _ => b_f (fun z => ?_)), i1⟩
    have h := (kZ_b hn hs ha hb hp z).1
    rw [i2 k h] at z; cases z
  · have hc := kZ_b hn hs ha hb hp c3
    refine Or.inr ⟨c, c1, hc.2, c2, c3, fun t ht => c4 t (kZ_b hn hs ha hb hp ht).1 ht, fun z => ?_⟩
    rw [z, b_0] at c3; cases c3
theorem kWw_s {a b : Nat} : kWw pr ps a b = kWw pr ps b a := funext (fun k => Nat.add_comm _ _)
theorem kZ_dsym (hn : kNI pr ps cs cn rk) (hs : kST pr ps cv dp sx 30) {a b : Nat} (ha : a < 30) (hb : b < 30) (hp : bt pr a = true) (hq : bt pr b = true) : ksbt sx (nI b) (nI a) (cv b &&& cv a) 30 = ksbt sx (nI a) (nI b) (cv a &&& cv b) 30 := by
  have h1 := kr_sbt hn hs ha hb hp hq 30 (Nat.le_refl _)
  have h2 := kr_sbt hn hs hb ha hq hp 30 (Nat.le_refl _)
  rw [kWw_s (a := b) (b := a)] at h2
  rcases h1 with ⟨a1, a2⟩ | ⟨u, u1, u2, u3⟩
  · rcases h2 with ⟨b1, b2⟩ | ⟨v, v1, v2, v3⟩
    · rw [a1, b1]
    · omega
  · rcases h2 with ⟨b1, b2⟩ | ⟨v, v1, v2, v3⟩
    · omega
    · rw [u2, v2, show u = v by omega]
theorem kd_self {a : Nat} (ha : a < 30) : kd pr ps a a = 0 := by
  have := kd_lst (pr := pr) (ps := ps) (m := 0) (s := a) (t := a) g_p0 ha ha
  omega
theorem kZ_dis (hn : kNI pr ps cs cn rk) (hs : kST pr ps cv dp sx 30) {a b : Nat} (ha : a < 30) (hb : b < 30) (hp : bt pr a = true) (hq : bt pr b = true) : (cv a &&& cv b = 0 ∧ ksbt sx (nI a) (nI b) (cv a &&& cv b) 30 = -1 ∧ ¬ a = b) ∨ ∃ u, u < 60 ∧ ¬ cv a &&& cv b = 0 ∧ ksbt sx (nI a) (nI b) (cv a &&& cv b) 30 = nI u ∧ (u = 0 ↔ a = b) := by
  have hz : ∀ k, k < 30 → bt (cv a &&& cv b) k = kCC pr ps a b k := fun k hk => kCC_z hs ha hb hp hq hk
  have hL := kmn_l (v := kWw pr ps a b) 30
  rcases kr_sbt hn hs ha hb hp hq 30 (Nat.le_refl _) with ⟨a1, a2⟩ | ⟨u, u1, u2, u3⟩
  · have h0 : ∀ k, k < 30 → kCC pr ps a b k = false := fun k hk => b_f2 (fun z => by
      have h1 := (kWw_b (pr := pr) (ps := ps) ha hb hk).2.1 z
      have h2 := hL.2 k hk
      omega)
    refine Or.inl ⟨b_eq0.mpr (fun k _ => b_f (fun z => ?_)), a1, fun e => ?_⟩
    · have h1 := (kZ_b hn hs ha hb hp z).1
      rw [hz k h1, h0 k h1] at z; cases z
    · subst e
      have h1 := h0 a ha
      unfold kCC at h1
      rw [g_rf ha] at h1; cases h1
  · refine Or.inr ⟨u, u1, fun z => ?_, u2, fun e => ?_, fun e => ?_⟩
    · have : 1000 ≤ kmn (kWw pr ps a b) 30 := kmn_g (by omega) 30 (fun k hk => (kWw_b (pr := pr) (ps := ps) ha hb hk).2.2 (by rw [← hz k hk, z, b_0]))
      omega
    · subst e
      rcases kmn_a (v := kWw pr ps a b) 30 with w | ⟨k, k1, k2⟩
      · omega
      · have k2 : kd pr ps a k + kd pr ps b k = kmn (kWw pr ps a b) 30 := k2
        have d1 : kd pr ps a k = 0 := by omega
        have d2 : kd pr ps b k = 0 := by omega
        have p1 := kd_pt (pr := pr) (ps := ps) ha k1 (by omega)
        have p2 := kd_pt (pr := pr) (ps := ps) hb k1 (by omega)
        rw [d1] at p1; rw [d2] at p2
        rw [of_decide_eq_true (show decide (a = k) = true from p1), of_decide_eq_true (show decide (b = k) = true from p2)]
    · subst e
      have h1 := hL.2 a ha
      have h2 : kWw pr ps a a a = 0 := by
        show kd pr ps a a + kd pr ps a a = 0
        rw [kd_self ha]
      omega
theorem kZ_like (hn : kNI pr ps cs cn rk) (hs : kST pr ps cv dp sx 30) {a b : Nat} (q : Int32) (ha : a < 30) (hb : b < 30) (hp : bt pr a = true) (hq : bt pr b = true) : kali pr cs cv ms dp sx (nI b) (nI a) q = kali pr cs cv ms dp sx (nI a) (nI b) q := by
  unfold kali kal1
  rw [kat_nI (f := cv) ha (by decide), kat_nI (f := cv) hb (by decide), kZ_dsym hn hs ha hb hp hq, b_com (cv b) (cv a), show kat 30 dp (nI b) + 1 + kat 30 dp (nI a) + 1 = kat 30 dp (nI a) + 1 + kat 30 dp (nI b) + 1 from by rw [Int32.add_assoc, Int32.add_comm (kat 30 dp (nI b) + 1), ← Int32.add_assoc]]
theorem kZ_like0 {a b : Nat} (q : Int32) (ha : a < 30) (hb : b < 30) (h : ktel ms dp (cv a &&& cv b) 30 = -1) : kali pr cs cv ms dp sx (nI a) (nI b) q = 0 := by
  unfold kali
  rw [kat_nI (f := cv) ha (by decide), kat_nI (f := cv) hb (by decide), if_pos h]
theorem kZ_likeq {a b u : Nat} (ha : a < 30) (hb : b < 30) (h : ¬ ktel ms dp (cv a &&& cv b) 30 = -1) (hu : u < 60) (hd : ksbt sx (nI a) (nI b) (cv a &&& cv b) 30 = nI u) : kali pr cs cv ms dp sx (nI a) (nI b) 0 = 10000 / (1 + nI u) := by
  unfold kali
  rw [kat_nI (f := cv) ha (by decide), kat_nI (f := cv) hb (by decide), if_neg h, if_pos rfl, hd]
  unfold kquo
  rw [show (1 : Int32) + nI u = nI (1 + u) from nI_add 1 u, if_neg (nI_nle (by omega) (by omega))]
end PPP
