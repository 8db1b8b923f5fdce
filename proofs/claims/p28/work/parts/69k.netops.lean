/-! The relation between the class's net and the reference's; what the edits of the net keep. -/
abbrev kRN (A : Nat) (cn rk : Nat → Nat) (ad pr : Int32) (ps cs cv ms dp sx pa : Nat → Int32) : Prop :=
  (ad = nI A ∧ A ≤ 30) ∧ (∀ k, bt pr k = true → k < A) ∧ kNI pr ps cs cn rk ∧ kSt pr ps cv ms dp sx cn ∧ (∀ k, k < 30 → bt pr k = true → pa k = ps k) ∧ (∀ k, k < 30 → kcnt (ps k) 30 ≤ 4) ∧ ∀ k, k < 30 → bt pr k = false → ps k = 0 ∧ cs k = 0
theorem kRN_rl {A : Nat} {cn rk : Nat → Nat} {ad pr : Int32} {ps cs cv ms dp sx pa : Nat → Int32} (h : kRN A cn rk ad pr ps cs cv ms dp sx pa) : kRl pr ps cs pa cs := fun k hk hb => ⟨h.2.2.2.2.1 k hk hb, rfl⟩
theorem kSt_new {pr : Int32} {ps cs cv ms dp sx : Nat → Int32} {cn rk : Nat → Nat} (hn : kNI pr ps cs cn rk) : kSt pr ps (kset pr ps cv dp sx 30).1 (kwei cs (kset pr ps cv dp sx 30).1 ms 30) (kset pr ps cv dp sx 30).2.1 (kset pr ps cv dp sx 30).2.2 cn :=
  ⟨kST_n hn.1 30 (Nat.le_refl _), kwei_s (fun k hk => (hn.2.2 k hk).1) (kST_n hn.1 30 (Nat.le_refl _)) 30 (Nat.le_refl _)⟩
theorem i_b30 {pr ad : Int32} {A k : Nat} (hA : A < 30) (e : ad = nI A) : bt (pr ||| kbit ad) k = (bt pr k || decide (A = k)) := by
  rw [b_or, e]
  by_cases hk : k < 32
  · rw [kbit_b hA hk]
  · rw [b_big (x := kbit (nI A)) (by omega), decide_eq_false (by omega)]
theorem kcnt_0 : kcnt 0 30 = 0 := by decide +kernel
theorem kO_add {A : Nat} {cn rk : Nat → Nat} {ad pr : Int32} {ps cs cv ms dp sx pa : Nat → Int32} (h : kRN A cn rk ad pr ps cs cv ms dp sx pa) :
    kcAdd ad = kmAdd ad ∧ (kcAdd ad = 0 → upd cs A 0 = cs ∧ kRN (A + 1) cn rk (ad + 1) (pr ||| kbit ad) ps cs (kset (pr ||| kbit ad) ps cv dp sx 30).1 (kwei cs (kset (pr ||| kbit ad) ps cv dp sx 30).1 ms 30) (kset (pr ||| kbit ad) ps cv dp sx 30).2.1 (kset (pr ||| kbit ad) ps cv dp sx 30).2.2 (upd pa A 0)) := by
  obtain ⟨⟨h1, h2⟩, h3, h4, h5, h6, h7, h8⟩ := h
  have e30 : (30 : Int32) = nI 30 := rfl
  unfold kcAdd kmAdd
  rcases Nat.lt_or_ge A 30 with c | c
  · have q1 : ad < 30 := by rw [h1]; exact nI_lt (b := 30) c (by decide)
    have q2 : ¬ ad = 30 := by rw [h1]; exact fun z => by have := (nI_eq (b := 30) (by omega) (by decide)).mp z; omega
    rw [if_pos q1, if_neg q2]
    refine ⟨rfl, fun _ => ?_⟩
    have hA : bt pr A = false := by rw [Bool.eq_false_iff]; intro z; have := h3 A z; omega
    have hn : kNI (pr ||| kbit ad) ps cs cn rk := by
      refine ⟨⟨fun k hk => ?_, fun s hs t ht => ?_⟩, h4.2⟩
      · rw [i_b30 c h1, Bool.or_eq_true, decide_eq_true_iff] at hk
        rcases hk with hk | hk
        · exact h4.1.1 k hk
        · omega
      · have := h4.1.2 s hs t ht
        exact ⟨this.1, by rw [i_b30 c h1, this.2.1]; rfl, by rw [i_b30 c h1, this.2.2]; rfl⟩
    refine ⟨?_, ⟨by rw [h1]; exact nI_1 A, by omega⟩, fun k hk => ?_, hn, kSt_new hn, fun k hk hb => ?_, h7, fun k hk hb => ?_⟩
    · funext k
      by_cases e : k = A
      · rw [e, pk_us, (h8 A c hA).2]
      · rw [pk_un e]
    · rw [i_b30 c h1, Bool.or_eq_true, decide_eq_true_iff] at hk
      rcases hk with hk | hk
      · have := h3 k hk; omega
      · omega
    · by_cases e : k = A
      · rw [e, pk_us, (h8 A c hA).1]
      · rw [pk_un e]
        rw [i_b30 c h1, decide_eq_false (fun z => e z.symm), Bool.or_false] at hb
        exact h6 k hk hb
    · rw [i_b30 c h1, Bool.or_eq_false_iff] at hb
      exact h8 k hk hb.1
  · have q1 : ¬ ad < 30 := by rw [h1]; exact nI_nlt (b := 30) c (by omega)
    have q2 : ad = 30 := by rw [h1, show A = 30 by omega]; rfl
    rw [if_neg q1, if_pos q2]
    exact ⟨rfl, fun z => absurd z (by decide)⟩
/-- parents of a sense, bits and counts -/
theorem kRN_bits {A : Nat} {cn rk : Nat → Nat} {ad pr : Int32} {ps cs cv ms dp sx pa : Nat → Int32} (h : kRN A cn rk ad pr ps cs cv ms dp sx pa) {a : Nat} (ha : a < 30) : ∀ k, bt (ps a) k = true → k < 30 := fun k hk => (h.2.2.1.1.2 a ha k hk).1
theorem kRN_pop {A : Nat} {cn rk : Nat → Nat} {ad pr : Int32} {ps cs cv ms dp sx pa : Nat → Int32} (h : kRN A cn rk ad pr ps cs cv ms dp sx pa) {a : Nat} (ha : a < 30) : kpop (ps a) = nI (kcnt (ps a) 30) := kpop_30 (kRN_bits h ha)
theorem kRN_self {A : Nat} {cn rk : Nat → Nat} {ad pr : Int32} {ps cs cv ms dp sx pa : Nat → Int32} (h : kRN A cn rk ad pr ps cs cv ms dp sx pa) {a : Nat} (ha : a < 30) : bt (ps a) a = false := by
  rw [Bool.eq_false_iff]; intro z; have := h.2.2.1.2.1 a a ha z; omega
theorem i_orb {x : Int32} {b k : Nat} (hb : b < 30) : bt (x ||| kbit (nI b)) k = (bt x k || decide (b = k)) := i_b30 hb rfl
theorem i_anb {x : Int32} {b k : Nat} (hb : b < 30) : bt (x &&& (kbit (nI b) ^^^ (-1))) k = (bt x k && decide (¬ b = k)) := by
  rw [b_and, b_xor]
  by_cases hk : k < 32
  · rw [kbit_b hb hk, b_m1 k hk]
    by_cases e : b = k
    · rw [decide_eq_true e, decide_eq_false (by omega)]; rfl
    · rw [decide_eq_false e, decide_eq_true e]; rfl
  · rw [b_big (x := x) (by omega), Bool.false_and, Bool.false_and]
theorem kct_u {p q : Nat → Bool} {b : Nat} : ∀ n, (∀ k, k < n → ¬ k = b → q k = p k) → kct q n ≤ kct p n + 1 ∧ (n ≤ b → kct q n = kct p n) := by
  intro n
  induction n with
  | zero => exact fun _ => ⟨Nat.zero_le _, fun _ => rfl⟩
  | succ n ih =>
    intro h
    have ih := ih (fun k hk => h k (by omega))
    show kct q n + _ ≤ kct p n + _ + 1 ∧ (_ → kct q n + _ = kct p n + _)
    by_cases e : n = b
    · have := ih.2 (by omega)
      refine ⟨?_, fun z => absurd z (by omega)⟩
      split <;> split <;> omega
    · rw [h n (by omega) e]
      exact ⟨by omega, fun z => by rw [ih.2 (by omega)]⟩
theorem kO_link {A : Nat} {cn rk : Nat → Nat} {ad pr : Int32} {ps cs cv ms dp sx pa : Nat → Int32} (i k : Int32) (h : kRN A cn rk ad pr ps cs cv ms dp sx pa) :
    kcLink pr ps cv i k = kmLink pr pa i k ∧ (kcLink pr ps cv i k = 0 → kpop (kat 30 (kput 30 ps i (kat 30 ps i ||| kbit k)) i) = nI (kcnt (kat 30 (kput 30 pa i (kat 30 pa i ||| kbit k)) i) 30) ∧
      ∃ rk, kRN A cn rk ad pr (kput 30 ps i (kat 30 ps i ||| kbit k)) cs (kset pr (kput 30 ps i (kat 30 ps i ||| kbit k)) cv dp sx 30).1 (kwei cs (kset pr (kput 30 ps i (kat 30 ps i ||| kbit k)) cv dp sx 30).1 ms 30) (kset pr (kput 30 ps i (kat 30 ps i ||| kbit k)) cv dp sx 30).2.1 (kset pr (kput 30 ps i (kat 30 ps i ||| kbit k)) cv dp sx 30).2.2 (kput 30 pa i (kat 30 pa i ||| kbit k))) := by
  unfold kcLink kmLink
  by_cases ci : khas pr i = false
  · rw [if_pos ci, if_pos ci]; exact ⟨rfl, fun z => absurd z (by decide)⟩
  rw [if_neg ci, if_neg ci]
  by_cases ck : khas pr k = false
  · rw [if_pos ck, if_pos ck]; exact ⟨rfl, fun z => absurd z (by decide)⟩
  rw [if_neg ck, if_neg ck]
  have ci : khas pr i = true := by cases w : khas pr i with | true => rfl | false => exact absurd w ci
  have ck : khas pr k = true := by cases w : khas pr k with | true => rfl | false => exact absurd w ck
  obtain ⟨a, ha, rfl, hpa⟩ := khas_in ci
  obtain ⟨b, hb, rfl, hpb⟩ := khas_in ck
  have hq := kRN_pop h ha
  have hcn := h.2.2.2.2.2.1 a ha
  have hself := kRN_self h ha
  have hrl := kRN_rl h
  obtain ⟨⟨h1, h2⟩, h3, h4, h5, h6, h7, h8⟩ := h
  rw [kat_nI ha (by decide), kat_nI hb (by decide), kat_nI ha (by decide), h6 a ha hpa, khas_nI hb, khas_nI ha, kdx_nI ha hb]
  cases e1 : bt (ps a) b with
  | true => rw [if_pos (show ¬ nB true = 0 by decide), if_pos rfl]; exact ⟨rfl, fun z => absurd z (by decide)⟩
  | false =>
    rw [if_neg (show ¬ ¬ nB false = 0 by decide), if_neg (show ¬ false = true by decide), hq]
    by_cases c4 : kcnt (ps a) 30 = 4
    · rw [if_pos (show ¬ nI (kcnt (ps a) 30) < 4 by rw [c4]; decide), if_pos (show nI (kcnt (ps a) 30) = 4 by rw [c4]; rfl)]; exact ⟨rfl, fun z => absurd z (by decide)⟩
    rw [if_neg (show ¬ ¬ nI (kcnt (ps a) 30) < 4 from Classical.not_not.mpr (nI_lt (b := 4) (by omega) (by decide))), if_neg (show ¬ nI (kcnt (ps a) 30) = 4 from fun z => by have := (nI_eq (b := 4) (by omega) (by decide)).mp z; omega)]
    have e2 : bt (cv b) a = decide (kd pr pa b a < 1000) := by
      rw [(h5.1 b hb).1 a, kCv_R ha (Or.inl hpb), ← kd_re hb ha, kd_cg (kRl_E hrl) hb]
    rw [← e2]
    cases e3 : bt (cv b) a with
    | true => rw [if_pos (show ¬ nB true = 0 by decide), if_pos rfl]; exact ⟨rfl, fun z => absurd z (by decide)⟩
    | false =>
      rw [if_neg (show ¬ ¬ nB false = 0 by decide), if_neg (show ¬ false = true by decide)]
      refine ⟨rfl, fun _ => ?_⟩
      have hba : kRe pr ps 30 b a = false := by rw [← kCv_R ha (Or.inl hpb), ← (h5.1 b hb).1 a]; exact e3
      rw [kput_nI ha (by decide), kput_nI ha (by decide), kat_nI ha (by decide), kat_nI ha (by decide), pk_us, pk_us]
      have hps : kPs pr (upd ps a (ps a ||| kbit (nI b))) := by
        refine ⟨h4.1.1, fun s hs t ht => ?_⟩
        by_cases e : s = a
        · rw [e, pk_us, i_orb hb, Bool.or_eq_true, decide_eq_true_iff] at ht
          rcases ht with ht | ht
          · have := h4.1.2 a ha t ht; rw [e]; exact this
          · rw [← ht, e]; exact ⟨hb, hpb, hpa⟩
        · rw [pk_un e] at ht; exact h4.1.2 s hs t ht
      have hcn2 : kcnt (ps a ||| kbit (nI b)) 30 ≤ 4 := by
        rw [kcnt_c]
        have := (kct_u (p := bt (ps a)) (q := bt (ps a ||| kbit (nI b))) (b := b) 30 (fun k _ hk => by rw [i_orb hb, decide_eq_false (fun z => hk z.symm), Bool.or_false])).1
        have q := kcnt_c (z := ps a) 30
        omega
      have hn : kNI pr (upd ps a (ps a ||| kbit (nI b))) cs cn (fun s => if kRe pr ps 30 s a = true then rk s + (rk b + 1) else rk s) := by
        refine ⟨hps, fun s q hs ht => ?_, h4.2.2⟩
        have old : bt (ps s) q = true → (if kRe pr ps 30 q a = true then rk q + (rk b + 1) else rk q) < (if kRe pr ps 30 s a = true then rk s + (rk b + 1) else rk s) := by
          intro w
          have w1 := h4.2.1 s q hs w
          by_cases r : kRe pr ps 30 q a = true
          · obtain ⟨n, _, r2⟩ := kRe_i.mp r
            have r3 := kRe_30 hs ha (kpt_s (h4.1.2 s hs q w).1 (by rw [kPs_E h4.1 hs]; exact w) r2)
            rw [if_pos r, if_pos r3]; omega
          · rw [if_neg r]; split <;> omega
        dsimp only
        by_cases e : s = a
        · subst e
          rw [pk_us, i_orb hb, Bool.or_eq_true, decide_eq_true_iff] at ht
          rcases ht with ht | ht
          · exact old ht
          · subst ht
            rw [if_neg (by rw [hba]; decide), if_pos (kRe_30 hs hs (n := 0) (decide_eq_true rfl))]; omega
        · rw [pk_un e] at ht; exact old ht
      refine ⟨?_, _, ⟨h1, h2⟩, h3, hn, kSt_new hn, fun k hk hb2 => ?_, fun k hk => ?_, fun k hk hb2 => ?_⟩
      · exact kpop_30 (fun k hk => by rw [i_orb hb, Bool.or_eq_true, decide_eq_true_iff] at hk; rcases hk with hk | hk; exact (h4.1.2 a ha k hk).1; omega)
      · by_cases e : k = a
        · rw [e, pk_us, pk_us]
        · rw [pk_un e, pk_un e]; exact h6 k hk hb2
      · by_cases e : k = a
        · rw [e, pk_us]; exact hcn2
        · rw [pk_un e]; exact h7 k hk
      · by_cases e : k = a
        · rw [e, hpa] at hb2; cases hb2
        · rw [pk_un e]; exact h8 k hk hb2
theorem kO_unl {A : Nat} {cn rk : Nat → Nat} {ad pr : Int32} {ps cs cv ms dp sx pa : Nat → Int32} (i k : Int32) (h : kRN A cn rk ad pr ps cs cv ms dp sx pa) :
    kcUnl pr ps i k = kmUnl pr pa i k ∧ (kcUnl pr ps i k = 0 → kpop (kat 30 (kput 30 ps i (kat 30 ps i &&& (kbit k ^^^ (-1)))) i) = nI (kcnt (kat 30 (kput 30 pa i (kat 30 pa i &&& (kbit k ^^^ (-1)))) i) 30) ∧
      kRN A cn rk ad pr (kput 30 ps i (kat 30 ps i &&& (kbit k ^^^ (-1)))) cs (kset pr (kput 30 ps i (kat 30 ps i &&& (kbit k ^^^ (-1)))) cv dp sx 30).1 (kwei cs (kset pr (kput 30 ps i (kat 30 ps i &&& (kbit k ^^^ (-1)))) cv dp sx 30).1 ms 30) (kset pr (kput 30 ps i (kat 30 ps i &&& (kbit k ^^^ (-1)))) cv dp sx 30).2.1 (kset pr (kput 30 ps i (kat 30 ps i &&& (kbit k ^^^ (-1)))) cv dp sx 30).2.2 (kput 30 pa i (kat 30 pa i &&& (kbit k ^^^ (-1))))) := by
  unfold kcUnl kmUnl
  by_cases ci : khas pr i = false
  · rw [if_pos ci, if_pos ci]; exact ⟨rfl, fun z => absurd z (by decide)⟩
  rw [if_neg ci, if_neg ci]
  by_cases ck : khas pr k = false
  · rw [if_pos ck, if_pos ck]; exact ⟨rfl, fun z => absurd z (by decide)⟩
  rw [if_neg ck, if_neg ck]
  have ci : khas pr i = true := by cases w : khas pr i with | true => rfl | false => exact absurd w ci
  have ck : khas pr k = true := by cases w : khas pr k with | true => rfl | false => exact absurd w ck
  obtain ⟨a, ha, rfl, hpa⟩ := khas_in ci
  obtain ⟨b, hb, rfl, hpb⟩ := khas_in ck
  obtain ⟨⟨h1, h2⟩, h3, h4, h5, h6, h7, h8⟩ := h
  rw [kat_nI ha (by decide), kat_nI ha (by decide), h6 a ha hpa, khas_nI hb]
  cases e1 : bt (ps a) b with
  | false => rw [if_pos (show nB false = 0 from rfl), if_pos rfl]; exact ⟨rfl, fun z => absurd z (by decide)⟩
  | true =>
    rw [if_neg (show ¬ nB true = 0 by decide), if_neg (show ¬ true = false by decide)]
    refine ⟨rfl, fun _ => ?_⟩
    rw [kput_nI ha (by decide), kput_nI ha (by decide), kat_nI ha (by decide), kat_nI ha (by decide), pk_us, pk_us]
    have sub : ∀ t, bt (ps a &&& (kbit (nI b) ^^^ (-1))) t = true → bt (ps a) t = true := fun t ht => by rw [i_anb hb, Bool.and_eq_true] at ht; exact ht.1
    have hn : kNI pr (upd ps a (ps a &&& (kbit (nI b) ^^^ (-1)))) cs cn rk := by
      refine ⟨⟨h4.1.1, fun s hs t ht => ?_⟩, fun s q hs ht => ?_, h4.2.2⟩
      · by_cases e : s = a
        · rw [e, pk_us] at ht; rw [e]; exact h4.1.2 a ha t (sub t ht)
        · rw [pk_un e] at ht; exact h4.1.2 s hs t ht
      · by_cases e : s = a
        · rw [e, pk_us] at ht; rw [e]; exact h4.2.1 a q ha (sub q ht)
        · rw [pk_un e] at ht; exact h4.2.1 s q hs ht
    refine ⟨?_, ⟨h1, h2⟩, h3, hn, kSt_new hn, fun k hk hb2 => ?_, fun k hk => ?_, fun k hk hb2 => ?_⟩
    · exact kpop_30 (fun k hk => (h4.1.2 a ha k (sub k hk)).1)
    · by_cases e : k = a
      · rw [e, pk_us, pk_us]
      · rw [pk_un e, pk_un e]; exact h6 k hk hb2
    · by_cases e : k = a
      · rw [e, pk_us, kcnt_c]
        have := kct_m (p := bt (ps a &&& (kbit (nI b) ^^^ (-1)))) (q := bt (ps a)) 30 (fun t _ ht => sub t ht)
        have := h7 a ha; rw [kcnt_c] at this; omega
      · rw [pk_un e]; exact h7 k hk
    · by_cases e : k = a
      · rw [e, hpa] at hb2; cases hb2
      · rw [pk_un e]; exact h8 k hk hb2
theorem kO_cnt {A : Nat} {cn rk : Nat → Nat} {ad pr : Int32} {ps cs cv ms dp sx pa : Nat → Int32} (i k : Int32) (h : kRN A cn rk ad pr ps cs cv ms dp sx pa) :
    kcCnt pr i k = kmCnt pr i k ∧ (kcCnt pr i k = 0 → ∃ cn, kRN A cn rk ad pr ps (kput 30 cs i k) cv (kwei (kput 30 cs i k) cv ms 30) dp sx pa) := by
  unfold kcCnt kmCnt
  by_cases ci : khas pr i = false
  · rw [if_pos ci, if_pos ci]; exact ⟨rfl, fun z => absurd z (by decide)⟩
  rw [if_neg ci, if_neg ci]
  have ci : khas pr i = true := by cases w : khas pr i with | true => rfl | false => exact absurd w ci
  obtain ⟨a, ha, rfl, hpa⟩ := khas_in ci
  obtain ⟨⟨h1, h2⟩, h3, h4, h5, h6, h7, h8⟩ := h
  unfold kin
  by_cases k0 : k < 0
  · rw [if_pos k0, decide_eq_true k0, if_pos (show (!true && _) = false from rfl)]; exact ⟨rfl, fun z => absurd z (by decide)⟩
  rw [if_neg k0, decide_eq_false k0]
  obtain ⟨c, hc, rfl⟩ := nI_of k0
  by_cases k1 : nI c ≤ 1000
  · have c1 : c ≤ 1000 := (nI_leI (b := 1000) hc (by decide)).mp k1
    have k2 : ¬ 1000 < nI c := nI_nlt (a := 1000) c1 (by decide)
    rw [if_neg (Classical.not_not.mpr k1), decide_eq_false k2, if_neg (show ¬ (!false && !false) = false by decide)]
    refine ⟨rfl, fun _ => ⟨fun k => if k = a then c else cn k, ?_⟩⟩
    rw [kput_nI ha (by decide)]
    have hcs : ∀ k, k < 30 → upd cs a (nI c) k = nI (if k = a then c else cn k) ∧ (if k = a then c else cn k) ≤ 1000 := by
      intro k hk
      by_cases e : k = a
      · rw [e, pk_us, if_pos rfl]; exact ⟨rfl, c1⟩
      · rw [pk_un e, if_neg e]; exact h4.2.2 k hk
    refine ⟨⟨h1, h2⟩, h3, ⟨h4.1, h4.2.1, hcs⟩, ⟨h5.1, kwei_s (fun k hk => (hcs k hk).1) h5.1 30 (Nat.le_refl _)⟩, h6, h7, fun k hk hb => ?_⟩
    by_cases e : k = a
    · rw [e, hpa] at hb; cases hb
    · rw [pk_un e]; exact h8 k hk hb
  · have c1 : 1000 < c := Nat.lt_of_not_le (fun z => k1 (nI_le (b := 1000) z (by decide)))
    rw [if_pos k1, decide_eq_true (show (1000 : Int32) < nI c from nI_lt (a := 1000) c1 hc), if_pos (show (!false && !true) = false from rfl)]; exact ⟨rfl, fun z => absurd z (by decide)⟩
