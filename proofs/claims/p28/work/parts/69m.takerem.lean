/-! Taking a sense from a word; removing a sense. -/
theorem kdro_k {gv : Nat → Int32} {w q z : Nat} (hw : w < 10) (hz : z < 5) : ∀ n x, x ≤ z → z - x ≤ n → q ≤ x → kdro (nI w * 5) (nI z) n (nI x) (kshc gv (5 * w + q) (5 * w + x)) = kshc gv (5 * w + q) (5 * w + z) := by
  intro n
  induction n with
  | zero => intro x h1 h2 h3; rw [show x = z by omega]; rfl
  | succ n ih =>
    intro x h1 h2 h3
    show (if nI x < 0 then _ else if nI z ≤ nI x then _ else _) = _
    rw [if_neg (nI_pos (by omega))]
    by_cases c : z ≤ x
    · rw [if_pos (nI_le c (by omega)), show x = z by omega]
    · rw [if_neg (fun y => c ((nI_leI (by omega) (by omega)).mp y)), show nI w * 5 + nI x = nI (5 * w + x) from by rw [Int32.mul_comm]; exact kx_gv, nI_1, nI_1, kat_nI (by omega) (by decide), kput_nI (by omega) (by decide), kshc_s (by omega)]
      exact ih (x + 1) (by omega) (by omega) (by omega)
theorem kO_tak {W P : Nat} {nf wf : Nat → Nat} {pr kn pl : Int32} {gv sz lk se : Nat → Int32} (i k : Int32) (h : kRW W P nf wf pr kn pl gv sz lk se) :
    kcTak pr kn pl sz gv se i k = kmTak pr kn gv sz se P i k ∧ (kcTak pr kn pl sz gv se i k = 0 → kdr sz gv i k = kshc gv (5 * i.toNatClampNeg + (kpl2 gv sz i k).toNatClampNeg) (5 * i.toNatClampNeg + ((kat 10 sz i).toNatClampNeg - 1)) ∧ klck lk i k = kput 10 lk i (if kat 10 lk i = k then -1 else kat 10 lk i) ∧
      ∃ nf, kRW W P nf wf pr kn pl (kshc gv (5 * i.toNatClampNeg + (kpl2 gv sz i k).toNatClampNeg) (5 * i.toNatClampNeg + ((kat 10 sz i).toNatClampNeg - 1))) (kput 10 sz i (kat 10 sz i - 1)) (kput 10 lk i (if kat 10 lk i = k then -1 else kat 10 lk i)) se) := by
  unfold kcTak kmTak
  by_cases ci : kwex kn i = false
  · rw [if_pos ci, if_pos ci]; exact ⟨rfl, fun z => absurd z (by decide)⟩
  rw [if_neg ci, if_neg ci]
  by_cases ck : khas pr k = false
  · rw [if_pos ck, if_pos ck]; exact ⟨rfl, fun z => absurd z (by decide)⟩
  rw [if_neg ck, if_neg ck]
  have ck : khas pr k = true := by cases e : khas pr k with | true => rfl | false => exact absurd e ck
  obtain ⟨b, hb, rfl, hpb⟩ := khas_in ck
  obtain ⟨w, hw, rfl⟩ := kwex_t ci h.1.1 h.1.2
  have F := kRW_rk h hw (nI b)
  have hP : pl.toNatClampNeg = P := by rw [h.2.1.1]; exact nI_clamp (by have := h.2.1.2; omega)
  rw [F.2.2.2, F.2.1, F.2.2.1, hP]
  by_cases c1 : kplo gv w (nI b) (nf w) = -1
  · rw [if_pos (nB_d0.mpr (Classical.not_not.mpr c1)), if_pos c1]; exact ⟨rfl, fun z => absurd z (by decide)⟩
  rw [if_neg (fun z => nB_d0.mp z c1), if_neg c1]
  obtain ⟨q, q1, q2, q3⟩ := kplo_j _ (kRW_mm h w hw).2 c1
  have hdr : kdr sz gv (nI w) (nI b) = kdro (nI w * 5) (nI (nf w - 1)) ((nI (nf w - 1)).toInt - (nI q).toInt).toNat (nI q) gv := by
    unfold kdr
    rw [F.1, F.2.2.1, q2, show nI (nf w) - 1 = nI (nf w - 1) from pk_sub (b := 1) (by omega)]
  obtain ⟨⟨h1, h2⟩, h3, h4, h5⟩ := h
  obtain ⟨a1, a2, a3, a4, a5⟩ := h4 w hw
  have hw10 : w < 10 := by omega
  have main : (nf w = 1 → ksai se (nI w) P = false) → kdr sz gv (nI w) (nI b) = kshc gv (5 * (nI w).toNatClampNeg + (kplo gv w (nI b) (nf w)).toNatClampNeg) (5 * (nI w).toNatClampNeg + ((nI (nf w)).toNatClampNeg - 1)) ∧ klck lk (nI w) (nI b) = kput 10 lk (nI w) (if kat 10 lk (nI w) = nI b then -1 else kat 10 lk (nI w)) ∧
      ∃ nf2, kRW W P nf2 wf pr kn pl (kshc gv (5 * (nI w).toNatClampNeg + (kplo gv w (nI b) (nf w)).toNatClampNeg) (5 * (nI w).toNatClampNeg + ((nI (nf w)).toNatClampNeg - 1))) (kput 10 sz (nI w) (nI (nf w) - 1)) (kput 10 lk (nI w) (if kat 10 lk (nI w) = nI b then -1 else kat 10 lk (nI w))) se := by
    intro hs
    rw [hdr, q2, nI_clamp (show w < 2 ^ 31 by omega), nI_clamp (show q < 2 ^ 31 by omega), nI_clamp (show nf w < 2 ^ 31 by omega), nI_toInt (show nf w - 1 < 2 ^ 31 by omega), nI_toInt (show q < 2 ^ 31 by omega)]
    have e1 := kdro_k (gv := gv) (q := q) (z := nf w - 1) hw10 (by omega) (((nf w - 1 : Nat) : Int) - (q : Int)).toNat q (by omega) (by omega) (Nat.le_refl _)
    rw [kshc_0] at e1
    have e2 : klck lk (nI w) (nI b) = kput 10 lk (nI w) (if kat 10 lk (nI w) = nI b then -1 else kat 10 lk (nI w)) := by
      unfold klck
      by_cases z : kat 10 lk (nI w) = nI b
      · rw [if_neg (Classical.not_not.mpr z), if_pos z]
      · rw [if_pos z, if_neg z, kat_nI hw10 (by decide), kput_nI hw10 (by decide)]
        funext v
        by_cases y : v = w
        · rw [y, pk_us]
        · rw [pk_un y]
    refine ⟨e1, e2, fun v => if v = w then nf w - 1 else nf v, ⟨h1, h2⟩, h3, fun v hv => ?_, fun j hj => ?_⟩
    · rw [kput_nI hw10 (by decide), kput_nI hw10 (by decide), kat_nI hw10 (by decide), show nI (nf w) - 1 = nI (nf w - 1) from pk_sub (b := 1) (by omega)]
      dsimp only
      by_cases e : v = w
      · subst e
        rw [pk_us, pk_us, if_pos rfl]
        have G : ∀ o, o < nf v - 1 → kshc gv (5 * v + q) (5 * v + (nf v - 1)) (5 * v + o) = gv (5 * v + (if q ≤ o then o + 1 else o)) := by
          intro o ho
          unfold kshc
          by_cases z : q ≤ o
          · rw [if_pos ⟨by omega, by omega⟩, if_pos z]; rfl
          · rw [if_neg (by omega), if_neg z]
        refine ⟨rfl, by omega, fun o ho => ?_, fun o r ho hr => ?_, ?_⟩
        · rw [G o ho]; exact a3 _ (by split <;> omega)
        · rw [G o (by omega), G r hr]; exact a4 _ _ (by split <;> split <;> omega) (by split <;> omega)
        · by_cases z : lk v = nI b
          · rw [if_pos z]; exact Or.inl rfl
          · rw [if_neg z]
            rcases a5 with a5 | ⟨o, o1, o2⟩
            · exact Or.inl a5
            · have oq : ¬ o = q := fun y => z (by rw [o2, y]; exact q3)
              refine Or.inr ⟨if o < q then o else o - 1, by split <;> omega, ?_⟩
              rw [G _ (by split <;> omega), o2]
              by_cases y : o < q
              · rw [if_pos y, if_neg (by omega)]
              · rw [if_neg y, if_pos (by omega), show o - 1 + 1 = o by omega]
      · rw [pk_un e, pk_un e, if_neg e]
        obtain ⟨b1, b2, b3, b4, b5⟩ := h4 v hv
        have G : ∀ o, o < nf v → kshc gv (5 * w + q) (5 * w + (nf w - 1)) (5 * v + o) = gv (5 * v + o) := by
          intro o ho
          unfold kshc
          rw [if_neg (by omega)]
        refine ⟨b1, b2, fun o ho => ?_, fun o r ho hr => ?_, ?_⟩
        · rw [G o ho]; exact b3 o ho
        · rw [G o (by omega), G r hr]; exact b4 o r ho hr
        · rcases b5 with b5 | ⟨o, o1, o2⟩
          · exact Or.inl b5
          · exact Or.inr ⟨o, o1, by rw [G o o1]; exact o2⟩
    · obtain ⟨d1, d2, d3⟩ := h5 j hj
      refine ⟨d1, d2, ?_⟩
      dsimp only
      by_cases e : wf j = w
      · rw [if_pos e]
        rw [e] at d1 d3
        rcases Nat.lt_or_ge 1 (nf w) with z | z
        · omega
        · have := hs (by omega)
          rw [ksai_of hj (by rw [kat_nI (by omega) (by decide)]; exact d1)] at this; cases this
      · rw [if_neg e]; exact d3
  by_cases c2 : nf w = 1
  · have e2 : nI (nf w) = 1 := by rw [c2]; rfl
    rw [if_neg (Classical.not_not.mpr e2)]
    cases c3 : ksai se (nI w) P with
    | true => rw [if_pos (show ¬ nB true = 0 by decide), if_pos ⟨e2, rfl⟩]; exact ⟨rfl, fun z => absurd z (by decide)⟩
    | false => rw [if_neg (show ¬ ¬ nB false = 0 by decide), if_neg (fun z => by cases z.2)]; exact ⟨rfl, fun _ => main (fun _ => c3)⟩
  · have e2 : ¬ nI (nf w) = 1 := fun z => c2 ((nI_eq (b := 1) (by omega) (by decide)).mp z)
    rw [if_pos e2, if_neg (fun z => e2 z.1)]; exact ⟨rfl, fun _ => main (fun z => absurd z c2)⟩
/-! remove -/
def kls (ps : Nat → Int32) (a n : Nat) : Nat → Int32 := fun k => if k < n ∧ bt (ps k) a = true then kwo ps k a else ps k
theorem klos_b {pr : Int32} {ps pa : Nat → Int32} {a : Nat} (ha : a < 30) (hs : bt (ps a) a = false) (hp : ∀ k, k < 30 → (bt pr k && bt (pa k) a) = bt (ps k) a) : ∀ n, n ≤ 30 → klos ps (nI a) n = (kls ps a n, kkid pr pa a n) := by
  intro n
  induction n with
  | zero =>
    intro _
    show (ps, 0) = (kls ps a 0, 0)
    rw [show kls ps a 0 = ps from by funext k; unfold kls; rw [if_neg (by omega)]]
  | succ n ih =>
    intro hn
    show klos1 (nI a) n (klos ps (nI a) n) = _
    rw [ih (by omega)]
    have en : kls ps a n n = ps n := if_neg (by omega)
    have ea : kls ps a n a = ps a := if_neg (by rw [hs]; exact fun z => by cases z.2)
    unfold klos1
    show (if nB (khas (kat 30 (kls ps a n) (nI n)) (nI a)) = 0 then (kls ps a n, kkid pr pa a n) else (kput 30 (kls ps a n) (nI n) (kpw (kls ps a n) (nI n) (nI a)), kkid pr pa a n + 1)) = (kls ps a (n + 1), kkid pr pa a n + nB (bt pr n && bt (pa n) a))
    rw [kat_nI (by omega) (by decide), en, hp n (by omega)]
    cases e : bt (ps n) a with
    | false =>
      rw [if_pos ((kx_k ha).mpr e)]
      have : kls ps a (n + 1) = kls ps a n := by
        funext k
        unfold kls
        by_cases c : k = n
        · rw [c, e, if_neg (fun z => by cases z.2), if_neg (fun z => by cases z.2)]
        · by_cases c2 : k < n
          · simp only [c2, show k < n + 1 by omega, true_and]
          · rw [if_neg (fun z => c2 (by omega)), if_neg (fun z => c2 z.1)]
      rw [this, show kkid pr pa a n + nB false = kkid pr pa a n from Int32.add_zero _]
    | true =>
      have zt : ¬ nB (khas (ps n) (nI a)) = 0 := fun w => by rw [(kx_k ha).mp w] at e; cases e
      rw [if_neg zt, kput_nI (by omega) (by decide)]
      have e4 : kpw (kls ps a n) (nI n) (nI a) = kwo ps n a := by
        unfold kpw kwo
        rw [kat_nI (by omega) (by decide), kat_nI ha (by decide), en, ea]
      have : kls ps a (n + 1) = upd (kls ps a n) n (kwo ps n a) := by
        funext k
        by_cases c : k = n
        · rw [c, pk_us]; unfold kls; rw [if_pos ⟨by omega, e⟩]
        · rw [pk_un c]; unfold kls
          by_cases c2 : k < n
          · simp only [c2, show k < n + 1 by omega, true_and]
          · rw [if_neg (fun z => c2 (by omega)), if_neg (fun z => c2 z.1)]
      rw [e4, this]; rfl
theorem kcan_e {ps : Nat → Int32} {a n : Nat} (ha : a < 30) (h30 : ∀ s, s < 30 → ∀ t, bt (ps s) t = true → t < 30) (hn : n < 30) : kcan ps (nI a) (n + 1) = (kcan ps (nI a) n && !(bt (ps n) a && !decide (nI (kcnt (kwo ps n a) 30) ≤ 4))) := by
  have e3 : kpw ps (nI n) (nI a) = kwo ps n a := by unfold kpw kwo; rw [kat_nI (by omega) (by decide), kat_nI ha (by decide)]
  have e4 : kpop (kwo ps n a) = nI (kcnt (kwo ps n a) 30) := kpop_30 (fun t ht => by
    unfold kwo at ht
    rw [i_anb ha, b_or, Bool.and_eq_true, Bool.or_eq_true] at ht
    rcases ht.1 with z | z
    · exact h30 n (by omega) t z
    · exact h30 a ha t z)
  have e5 : kcan ps (nI a) (n + 1) = (kcan ps (nI a) n && !(khas (kat 30 ps (nI n)) (nI a) && !decide (kpop (kpw ps (nI n) (nI a)) ≤ 4))) := rfl
  rw [e5, kat_nI hn (by decide), khas_nI ha, e3, e4]
theorem kbs_e {pr : Int32} {ps pa : Nat → Int32} {a n : Nat} (b : Bool) (hpa : pa a = ps a) (hp : ∀ k, k < 30 → (bt pr k && bt (pa k) a) = bt (ps k) a) (he : ∀ k, k < 30 → bt (ps k) a = true → pa k = ps k) (hn : n < 30) : kbs b pr pa a (n + 1) = (kbs b pr pa a n || (bt (ps n) a && !decide (nI (kcnt (kwo ps n a) 30) ≤ 4))) := by
  have e1 : kbs b pr pa a (n + 1) = (kbs b pr pa a n || ((bt pr n && bt (pa n) a) && !decide (nI (kcnt ((pa n ||| pa a) &&& (kbit (nI a) ^^^ (-1))) 30) ≤ 4))) := rfl
  rw [e1, hp n hn]
  cases e : bt (ps n) a with
  | false => rw [Bool.false_and, Bool.false_and]
  | true => unfold kwo; rw [he n hn e, hpa]
theorem b_bash (b c x : Bool) : (b || !c || x) = (b || !(c && !x)) := by cases b <;> cases c <;> cases x <;> rfl
theorem kcan_b {pr : Int32} {ps pa : Nat → Int32} {a : Nat} (b : Bool) (ha : a < 30) (hpa : pa a = ps a) (hp : ∀ k, k < 30 → (bt pr k && bt (pa k) a) = bt (ps k) a) (he : ∀ k, k < 30 → bt (ps k) a = true → pa k = ps k) (h30 : ∀ s, s < 30 → ∀ t, bt (ps s) t = true → t < 30) : ∀ n, n ≤ 30 → kbs b pr pa a n = (b || !kcan ps (nI a) n) := by
  intro n
  induction n with
  | zero => intro _; show b = (b || !true); rw [Bool.not_true, Bool.or_false]
  | succ n ih =>
    intro hn
    rw [kcan_e ha h30 (by omega), kbs_e b hpa hp he (by omega), ih (by omega)]
    exact b_bash _ _ _
theorem kcan_t {ps : Nat → Int32} {a : Nat} (ha : a < 30) (h30 : ∀ s, s < 30 → ∀ t, bt (ps s) t = true → t < 30) : ∀ n, n ≤ 30 → kcan ps (nI a) n = true → ∀ k, k < n → bt (ps k) a = true → kcnt (kwo ps k a) 30 ≤ 4 := by
  intro n
  induction n with
  | zero => exact fun _ _ k hk => absurd hk (by omega)
  | succ n ih =>
    intro hn h k hk hb
    rw [kcan_e ha h30 (by omega), Bool.and_eq_true] at h
    by_cases c : k = n
    · subst c
      rw [hb, Bool.true_and, Bool.not_not, decide_eq_true_iff] at h
      have l : kcnt (kwo ps k a) 30 < 2 ^ 31 := by rw [kcnt_c]; have := kct_le (bt (kwo ps k a)) 30; omega
      have h2 := h.2
      generalize kcnt (kwo ps k a) 30 = v at l h2 ⊢
      exact (nI_leI (b := 4) l (by decide)).mp h2
    · exact ih (by omega) h.1 k (by omega) hb
theorem kO_rem {A W P : Nat} {cn rk nf wf : Nat → Nat} {ad pr kn pl : Int32} {ps cs cv ms dp sx pa gv sz lk se : Nat → Int32} (i : Int32) (h : kRN A cn rk ad pr ps cs cv ms dp sx pa) (hW : kRW W P nf wf pr kn pl gv sz lk se) :
    kcRem pr kn ps sz gv i = kmRem pr pa gv sz W i ∧ (kcRem pr kn ps sz gv i = 0 → (klos ps i 30).2 = kkid pr pa i.toNatClampNeg 30 ∧ kRW W P nf wf (pr &&& (kbit i ^^^ (-1))) kn pl gv sz lk se ∧
      ∃ cn, kRN A cn rk ad (pr &&& (kbit i ^^^ (-1))) (kput 30 (klos ps i 30).1 i 0) (kput 30 cs i 0) (kset (pr &&& (kbit i ^^^ (-1))) (kput 30 (klos ps i 30).1 i 0) cv dp sx 30).1 (kwei (kput 30 cs i 0) (kset (pr &&& (kbit i ^^^ (-1))) (kput 30 (klos ps i 30).1 i 0) cv dp sx 30).1 ms 30) (kset (pr &&& (kbit i ^^^ (-1))) (kput 30 (klos ps i 30).1 i 0) cv dp sx 30).2.1 (kset (pr &&& (kbit i ^^^ (-1))) (kput 30 (klos ps i 30).1 i 0) cv dp sx 30).2.2 (krp pr pa i.toNatClampNeg 30)) := by
  unfold kcRem kmRem
  by_cases ci : khas pr i = false
  · rw [if_pos ci, if_pos ci]; exact ⟨rfl, fun z => absurd z (by decide)⟩
  rw [if_neg ci, if_neg ci]
  have ci : khas pr i = true := by cases w : khas pr i with | true => rfl | false => exact absurd w ci
  obtain ⟨a, ha, rfl, hpa⟩ := khas_in ci
  have hself := kRN_self h ha
  have hWn : kn.toNatClampNeg = W := by rw [hW.1.1]; exact nI_clamp (by have := hW.1.2; omega)
  rw [hWn, kRW_any hW (nI a) W (Nat.le_refl _), nI_clamp (show a < 2 ^ 31 by omega)]
  obtain ⟨⟨h1, h2⟩, h3, h4, h5, h6, h7, h8⟩ := h
  have hp : ∀ k, k < 30 → (bt pr k && bt (pa k) a) = bt (ps k) a := by
    intro k hk
    cases e : bt pr k with
    | true => rw [h6 k hk e]; rfl
    | false => rw [(h8 k hk e).1, b_0]; rfl
  have he : ∀ k, k < 30 → bt (ps k) a = true → pa k = ps k := fun k hk hb => h6 k hk (h4.1.2 k hk a hb).2.2
  have K := kcan_b (kbw gv sz (nI a) W) ha (h6 a ha hpa) hp he (fun s hs t ht => (h4.1.2 s hs t ht).1) 30 (Nat.le_refl _)
  have h30 : ∀ s, s < 30 → ∀ t, bt (ps s) t = true → t < 30 := fun s hs t ht => (h4.1.2 s hs t ht).1
  rw [K]
  cases w0 : kbw gv sz (nI a) W with
  | true => rw [if_pos (show ¬ nB true = 0 by decide), if_pos (show (true || _) = true from rfl)]; exact ⟨rfl, fun z => absurd z (by decide)⟩
  | false =>
    rw [if_neg (show ¬ ¬ nB false = 0 by decide)]
    cases c0 : kcan ps (nI a) 30 with
    | false => rw [if_pos (show nB false = 0 from rfl), if_pos (show (false || !false) = true from rfl)]; exact ⟨rfl, fun z => absurd z (by decide)⟩
    | true =>
      rw [if_neg (show ¬ nB true = 0 by decide), if_neg (show ¬ (false || !true) = true by decide)]
      refine ⟨rfl, fun _ => ?_⟩
      rw [klos_b ha hself hp 30 (Nat.le_refl _), kput_nI ha (by decide), kput_nI ha (by decide)]
      dsimp only
      have hpr : ∀ k, bt (pr &&& (kbit (nI a) ^^^ (-1))) k = (bt pr k && decide (¬ a = k)) := fun k => i_anb ha
      have wo : ∀ k t, bt (kwo ps k a) t = ((bt (ps k) t || bt (ps a) t) && decide (¬ a = t)) := fun k t => by unfold kwo; rw [i_anb ha, b_or]
      refine ⟨rfl, kRW_m hW (fun w o s hw ho hg hs hb => ?_), fun k => if k = a then 0 else cn k, ⟨h1, h2⟩, fun k hk => ?_, ?_⟩
      · have za : ¬ a = s := by
          intro z
          have q := kbw_w W w0 w hw
          have m := kRW_mm hW w hw
          rw [m.1, nI_clamp (by omega)] at q
          exact kplo_m _ q o ho m.2 (by rw [hg, z])
        rw [hpr, hb, decide_eq_true za]; rfl
      · rw [hpr, Bool.and_eq_true] at hk; exact h3 k hk.1
      have hps : ∀ s, s < 30 → ∀ t, bt (upd (kls ps a 30) a 0 s) t = true → ¬ s = a ∧ ¬ t = a ∧ t < 30 ∧ bt pr t = true ∧ bt pr s = true ∧ rk t < rk s := by
        intro s hs t ht
        by_cases e : s = a
        · rw [e, pk_us, b_0] at ht; cases ht
        · rw [pk_un e] at ht
          unfold kls at ht
          refine ⟨e, ?_⟩
          by_cases c : bt (ps s) a = true
          · rw [if_pos ⟨hs, c⟩, wo, Bool.and_eq_true, Bool.or_eq_true, decide_eq_true_iff] at ht
            refine ⟨fun z => ht.2 z.symm, ?_⟩
            have q1 := h4.1.2 s hs a c
            have q2 := h4.2.1 s a hs c
            rcases ht.1 with z | z
            · have q3 := h4.1.2 s hs t z; exact ⟨q3.1, q3.2.1, q3.2.2, h4.2.1 s t hs z⟩
            · have q3 := h4.1.2 a ha t z; have q4 := h4.2.1 a t ha z; exact ⟨q3.1, q3.2.1, q1.2.2, by omega⟩
          · rw [if_neg (fun z => c z.2)] at ht
            have q3 := h4.1.2 s hs t ht
            exact ⟨fun z => c (by rw [← z]; exact ht), q3.1, q3.2.1, q3.2.2, h4.2.1 s t hs ht⟩
      have hcs : ∀ k, k < 30 → upd cs a 0 k = nI (if k = a then 0 else cn k) ∧ (if k = a then 0 else cn k) ≤ 1000 := by
        intro k hk
        by_cases e : k = a
        · rw [e, pk_us, if_pos rfl]; exact ⟨rfl, by omega⟩
        · rw [pk_un e, if_neg e]; exact h4.2.2 k hk
      have hn : kNI (pr &&& (kbit (nI a) ^^^ (-1))) (upd (kls ps a 30) a 0) (upd cs a 0) (fun k => if k = a then 0 else cn k) rk := by
        refine ⟨⟨fun k hk => ?_, fun s hs t ht => ?_⟩, fun s q hs ht => (hps s hs q ht).2.2.2.2.2, hcs⟩
        · rw [hpr, Bool.and_eq_true] at hk; exact h4.1.1 k hk.1
        · have q := hps s hs t ht
          rw [hpr, hpr, q.2.2.2.1, q.2.2.2.2.1, decide_eq_true (show ¬ a = t from fun z => q.2.1 z.symm), decide_eq_true (show ¬ a = s from fun z => q.1 z.symm)]
          exact ⟨q.2.2.1, rfl, rfl⟩
      refine ⟨hn, kSt_new hn, fun k hk hb => ?_, fun k hk => ?_, fun k hk hb => ?_⟩
      · rw [hpr, Bool.and_eq_true, decide_eq_true_iff] at hb
        have e : ¬ k = a := fun z => hb.2 z.symm
        rw [pk_un e]
        unfold krp kls
        rw [hp k hk]
        by_cases c : bt (ps k) a = true
        · rw [if_pos ⟨hk, c⟩, if_pos ⟨hk, c⟩]; unfold kwo; rw [h6 k hk hb.1, h6 a ha hpa]
        · rw [if_neg (fun z => c z.2), if_neg (fun z => c z.2)]; exact h6 k hk hb.1
      · by_cases e : k = a
        · rw [e, pk_us, kcnt_0]; omega
        · rw [pk_un e]
          unfold kls
          by_cases c : bt (ps k) a = true
          · rw [if_pos ⟨hk, c⟩]; exact kcan_t ha h30 30 (Nat.le_refl _) c0 k hk c
          · rw [if_neg (fun z => c z.2)]; exact h7 k hk
      · by_cases e : k = a
        · rw [e, pk_us, pk_us]; exact ⟨rfl, rfl⟩
        · rw [pk_un e, pk_un e]
          rw [hpr, decide_eq_true (show ¬ a = k from fun z => e z.symm), Bool.and_true] at hb
          have q := h8 k hk hb
          unfold kls
          rw [if_neg (fun z => by have := z.2; rw [q.1, b_0] at this; cases this)]
          exact q
