/-! The relation between the words of both; what their edits keep. -/
abbrev kRW (W P : Nat) (nf wf : Nat → Nat) (pr kn pl : Int32) (gv sz lk se : Nat → Int32) : Prop :=
  (kn = nI W ∧ W ≤ 10) ∧ (pl = nI P ∧ P ≤ 6) ∧ (∀ w, w < W → sz w = nI (nf w) ∧ nf w ≤ 5 ∧ (∀ o, o < nf w → ∃ s, s < 30 ∧ gv (5 * w + o) = nI s ∧ bt pr s = true) ∧ (∀ o r, o < r → r < nf w → ¬ gv (5 * w + o) = gv (5 * w + r)) ∧ (lk w = -1 ∨ ∃ o, o < nf w ∧ lk w = gv (5 * w + o))) ∧ ∀ k, k < P → se k = nI (wf k) ∧ wf k < W ∧ 1 ≤ nf (wf k)
theorem kRW_m {W P : Nat} {nf wf : Nat → Nat} {pr pr2 kn pl : Int32} {gv sz lk se : Nat → Int32} (h : kRW W P nf wf pr kn pl gv sz lk se) (hp : ∀ w o s, w < W → o < nf w → gv (5 * w + o) = nI s → s < 30 → bt pr s = true → bt pr2 s = true) : kRW W P nf wf pr2 kn pl gv sz lk se := by
  obtain ⟨h1, h2, h3, h4⟩ := h
  refine ⟨h1, h2, fun w hw => ?_, h4⟩
  obtain ⟨a, b, c, d⟩ := h3 w hw
  refine ⟨a, b, fun o ho => ?_, d⟩
  obtain ⟨s, s1, s2, s3⟩ := c o ho
  exact ⟨s, s1, s2, hp w o s hw ho s2 s1 s3⟩
theorem kRW_mm {W P : Nat} {nf wf : Nat → Nat} {pr kn pl : Int32} {gv sz lk se : Nat → Int32} (h : kRW W P nf wf pr kn pl gv sz lk se) : ∀ w, w < W → sz w = nI (nf w) ∧ nf w ≤ 5 := fun w hw => ⟨(h.2.2.1 w hw).1, (h.2.2.1 w hw).2.1⟩
theorem kg_ix {gv : Nat → Int32} {w j : Nat} (hw : w < 10) (hj : j < 5) : kat 50 gv (nI w * 5 + nI j) = gv (5 * w + j) := by
  rw [show nI w * 5 + nI j = nI (5 * w + j) from by rw [Int32.mul_comm]; exact kx_gv]
  exact kat_nI (by omega) (by decide)
theorem krnk_x {gv : Nat → Int32} {w : Nat} {k : Int32} (hw : w < 10) : ∀ n, n ≤ 5 → krnk gv (nI w) k n = -1 ∨ ∃ j, j < n ∧ krnk gv (nI w) k n = nI j ∧ gv (5 * w + j) = k := by
  intro n
  induction n with
  | zero => exact fun _ => Or.inl rfl
  | succ n ih =>
    intro hn
    unfold krnk
    rw [kg_ix hw (by omega)]
    rcases ih (by omega) with e | ⟨j, a, b, c⟩
    · rw [e, if_pos rfl]
      by_cases g : gv (5 * w + n) = k
      · rw [if_neg (Classical.not_not.mpr g)]; exact Or.inr ⟨n, by omega, rfl, g⟩
      · rw [if_pos g]; exact Or.inl rfl
    · rw [b, if_neg (nI_neg1 j (by omega))]; exact Or.inr ⟨j, by omega, rfl, c⟩
/-- the first place is the last one, where all differ -/
theorem krnk_p {gv : Nat → Int32} {w : Nat} {k : Int32} (hw : w < 10) : ∀ n, n ≤ 5 → (∀ o r, o < r → r < n → ¬ gv (5 * w + o) = gv (5 * w + r)) → krnk gv (nI w) k n = kplo gv w k n := by
  intro n
  induction n with
  | zero => exact fun _ _ => rfl
  | succ n ih =>
    intro hn hd
    have ih := ih (by omega) (fun o r h1 h2 => hd o r h1 (by omega))
    have hx := krnk_x (gv := gv) (k := k) hw n (by omega)
    unfold krnk kplo
    rw [kg_ix hw (by omega)]
    by_cases g : gv (5 * w + n) = k
    · rw [if_neg (Classical.not_not.mpr g), if_neg (Classical.not_not.mpr g)]
      rcases hx with e | ⟨j, a, _, c⟩
      · rw [if_pos e]
      · exact absurd (c.trans g.symm) (hd j n a (by omega))
    · rw [if_pos g, if_pos g, ← ih]
      by_cases e : krnk gv (nI w) k n = -1
      · rw [if_pos e, e]
      · rw [if_neg e]
theorem kRW_rk {W P : Nat} {nf wf : Nat → Nat} {pr kn pl : Int32} {gv sz lk se : Nat → Int32} (h : kRW W P nf wf pr kn pl gv sz lk se) {w : Nat} (hw : w < W) (k : Int32) : krk sz gv (nI w) k = kplo gv w k (nf w) ∧ kpl2 gv sz (nI w) k = kplo gv w k (nf w) ∧ kat 10 sz (nI w) = nI (nf w) ∧ khsw sz gv (nI w) k = decide (¬ kplo gv w k (nf w) = -1) := by
  obtain ⟨a, b, c, d, e⟩ := h.2.2.1 w hw
  have h10 : w < 10 := Nat.lt_of_lt_of_le hw h.1.2
  have q := kat_nI (f := sz) h10 (by decide)
  have q2 : krk sz gv (nI w) k = kplo gv w k (nf w) := by
    unfold krk
    rw [q, a, nI_clamp (by omega)]
    exact krnk_p h10 _ b d
  refine ⟨q2, kpl2_nI h10 a b, q.trans a, ?_⟩
  unfold khsw; rw [q2]
theorem kRW_any {W P : Nat} {nf wf : Nat → Nat} {pr kn pl : Int32} {gv sz lk se : Nat → Int32} (h : kRW W P nf wf pr kn pl gv sz lk se) (k : Int32) : ∀ n, n ≤ W → kany sz gv k n = kbw gv sz k n := by
  intro n
  induction n with
  | zero => exact fun _ => rfl
  | succ n ih =>
    intro hn
    unfold kany kbw
    have hh := kRW_rk h (show n < W by omega) k
    have hm := kRW_mm h n (by omega)
    rw [ih (by omega), hh.2.2.2, hm.1, nI_clamp (show nf n < 2 ^ 31 by omega), ← decide_not]
theorem kplo_m {gv : Nat → Int32} {w : Nat} {k : Int32} : ∀ n, kplo gv w k n = -1 → ∀ o, o < n → n ≤ 5 → ¬ gv (5 * w + o) = k := by
  intro n
  induction n with
  | zero => exact fun _ o ho => absurd ho (by omega)
  | succ n ih =>
    intro h o ho hn
    unfold kplo at h
    by_cases g : gv (5 * w + n) = k
    · rw [if_neg (Classical.not_not.mpr g)] at h; exact absurd h (nI_neg1 n (by omega))
    · rw [if_pos g] at h
      by_cases e : o = n
      · rw [e]; exact g
      · exact ih h o (by omega) (by omega)
theorem kplo_j {gv : Nat → Int32} {w : Nat} {k : Int32} : ∀ n, n ≤ 5 → ¬ kplo gv w k n = -1 → ∃ q, q < n ∧ kplo gv w k n = nI q ∧ gv (5 * w + q) = k := by
  intro n
  induction n with
  | zero => exact fun _ h => absurd rfl h
  | succ n ih =>
    intro hn h
    unfold kplo at h ⊢
    by_cases g : gv (5 * w + n) = k
    · rw [if_neg (Classical.not_not.mpr g)]; exact ⟨n, by omega, rfl, g⟩
    · rw [if_pos g] at h ⊢
      obtain ⟨q, a, b⟩ := ih (by omega) h
      exact ⟨q, by omega, b⟩
theorem kbw_w {gv sz : Nat → Int32} {k : Int32} : ∀ n, kbw gv sz k n = false → ∀ w, w < n → kplo gv w k (sz w).toNatClampNeg = -1 := by
  intro n
  induction n with
  | zero => exact fun _ w hw => absurd hw (by omega)
  | succ n ih =>
    intro h w hw
    unfold kbw at h
    rw [Bool.or_eq_false_iff, Bool.not_eq_false', decide_eq_true_iff] at h
    by_cases e : w = n
    · rw [e]; exact h.2
    · exact ih h.1 w (by omega)
theorem kwex_t {kn i : Int32} {W : Nat} (h : ¬ kwex kn i = false) (hk : kn = nI W) (hW : W ≤ 10) : ∃ w, w < W ∧ i = nI w :=
  kwex_in (by cases e : kwex kn i with | true => rfl | false => exact absurd e h) hk hW
theorem nB_d {p : Prop} [Decidable p] : (¬ nB (decide p) = 0) ↔ p := by rw [nB_n0, decide_eq_true_iff]
theorem nB_d0 {p : Prop} [Decidable p] : (nB (decide p) = 0) ↔ ¬ p := by rw [nB_0, decide_eq_false_iff_not]
theorem kO_adw {W P : Nat} {nf wf : Nat → Nat} {pr kn pl : Int32} {gv sz lk se : Nat → Int32} (h : kRW W P nf wf pr kn pl gv sz lk se) :
    kcAdw kn = kmAdw kn ∧ (kcAdw kn = 0 → kput 10 sz kn 0 = upd sz W 0 ∧ kput 10 lk kn (-1) = upd lk W (-1) ∧ ∃ nf, kRW (W + 1) P nf wf pr (kn + 1) pl gv (upd sz W 0) (upd lk W (-1)) se) := by
  obtain ⟨⟨h1, h2⟩, h3, h4, h5⟩ := h
  unfold kcAdw kmAdw
  rcases Nat.lt_or_ge W 10 with c | c
  · rw [if_pos (show kn < 10 by rw [h1]; exact nI_lt (b := 10) c (by decide)), if_neg (show ¬ kn = 10 from fun z => by rw [h1] at z; have := (nI_eq (b := 10) (by omega) (by decide)).mp z; omega)]
    refine ⟨rfl, fun _ => ⟨by rw [h1, kput_nI c (by decide)], by rw [h1, kput_nI c (by decide)], fun w => if w = W then 0 else nf w, ⟨by rw [h1]; exact nI_1 W, by omega⟩, h3, fun w hw => ?_, fun k hk => ?_⟩⟩
    · dsimp only
      by_cases e : w = W
      · rw [e, pk_us, pk_us, if_pos rfl]
        exact ⟨rfl, by omega, fun o ho => absurd ho (by omega), fun o r _ hr => absurd hr (by omega), Or.inl rfl⟩
      · rw [pk_un e, pk_un e, if_neg e]; exact h4 w (by omega)
    · have q := h5 k hk
      refine ⟨q.1, by omega, ?_⟩
      dsimp only
      rw [if_neg (by omega)]; exact q.2.2
  · have e : kn = 10 := by rw [h1, show W = 10 by omega]; rfl
    rw [e]
    exact ⟨by decide, fun z => absurd z (by decide)⟩
theorem kO_giv {W P : Nat} {nf wf : Nat → Nat} {pr kn pl : Int32} {gv sz lk se : Nat → Int32} (i k : Int32) (h : kRW W P nf wf pr kn pl gv sz lk se) :
    kcGiv pr kn sz gv i k = kmGiv pr kn gv sz i k ∧ (kcGiv pr kn sz gv i k = 0 → kput 50 gv (i * 5 + kat 10 sz i) k = upd gv (5 * i.toNatClampNeg + (kat 10 sz i).toNatClampNeg) k ∧
      ∃ nf, kRW W P nf wf pr kn pl (upd gv (5 * i.toNatClampNeg + (kat 10 sz i).toNatClampNeg) k) (kput 10 sz i (kat 10 sz i + 1)) lk se) := by
  unfold kcGiv kmGiv
  by_cases ci : kwex kn i = false
  · rw [if_pos ci, if_pos ci]; exact ⟨rfl, fun z => absurd z (by decide)⟩
  rw [if_neg ci, if_neg ci]
  by_cases ck : khas pr k = false
  · rw [if_pos ck, if_pos ck]; exact ⟨rfl, fun z => absurd z (by decide)⟩
  rw [if_neg ck, if_neg ck]
  have ck : khas pr k = true := by cases e : khas pr k with | true => rfl | false => exact absurd e ck
  obtain ⟨b, hb, rfl, hpb⟩ := khas_in ck
  obtain ⟨w, hw, rfl⟩ := kwex_t ci h.1.1 h.1.2
  have F := kRW_rk h hw (nI b)
  rw [F.2.2.2, F.2.1, F.2.2.1]
  by_cases c1 : ¬ kplo gv w (nI b) (nf w) = -1
  · rw [if_pos (nB_d.mpr c1), if_pos c1]; exact ⟨rfl, fun z => absurd z (by decide)⟩
  rw [if_neg (fun z => c1 (nB_d.mp z)), if_neg c1]
  have c1 := Classical.not_not.mp c1
  obtain ⟨⟨h1, h2⟩, h3, h4, h5⟩ := h
  obtain ⟨a1, a2, a3, a4, a5⟩ := h4 w hw
  rcases Nat.lt_or_ge (nf w) 5 with c | c
  · rw [if_neg (Classical.not_not.mpr (show nI (nf w) < 5 from nI_lt (b := 5) c (by decide))), if_neg (show ¬ nI (nf w) = 5 from fun z => by have := (nI_eq (b := 5) (by omega) (by decide)).mp z; omega)]
    refine ⟨rfl, fun _ => ?_⟩
    have ix : nI w * 5 + nI (nf w) = nI (5 * w + nf w) := by rw [Int32.mul_comm]; exact kx_gv
    rw [ix, kput_nI (by omega) (by decide), nI_clamp (show w < 2 ^ 31 by omega), nI_clamp (show nf w < 2 ^ 31 by omega), kput_nI (by omega) (by decide), nI_1]
    refine ⟨rfl, fun v => if v = w then nf w + 1 else nf v, ⟨h1, h2⟩, h3, fun v hv => ?_, fun j hj => ?_⟩
    · dsimp only
      by_cases e : v = w
      · subst e
        rw [pk_us, if_pos rfl]
        refine ⟨rfl, by omega, fun o ho => ?_, fun o r ho hr => ?_, ?_⟩
        · by_cases e2 : o = nf v
          · rw [e2, pk_us]; exact ⟨b, hb, rfl, hpb⟩
          · rw [pk_un (by omega)]; exact a3 o (by omega)
        · by_cases e2 : r = nf v
          · rw [e2, pk_us, pk_un (by omega)]; exact kplo_m _ c1 o (by omega) a2
          · rw [pk_un (by omega), pk_un (by omega)]; exact a4 o r ho (by omega)
        · rcases a5 with a5 | ⟨o, o1, o2⟩
          · exact Or.inl a5
          · exact Or.inr ⟨o, by omega, by rw [pk_un (by omega)]; exact o2⟩
      · rw [pk_un e, if_neg e]
        obtain ⟨b1, b2, b3, b4, b5⟩ := h4 v hv
        refine ⟨b1, b2, fun o ho => ?_, fun o r ho hr => ?_, ?_⟩
        · rw [pk_un (by omega)]; exact b3 o ho
        · rw [pk_un (by omega), pk_un (by omega)]; exact b4 o r ho hr
        · rcases b5 with b5 | ⟨o, o1, o2⟩
          · exact Or.inl b5
          · exact Or.inr ⟨o, o1, by rw [pk_un (by omega)]; exact o2⟩
    · obtain ⟨q1, q2, q3⟩ := h5 j hj
      refine ⟨q1, q2, ?_⟩
      dsimp only
      split <;> omega
  · have e : nf w = 5 := by omega
    rw [e]
    exact ⟨by decide, fun z => absurd z (by decide)⟩
theorem kO_loc {W P : Nat} {nf wf : Nat → Nat} {pr kn pl : Int32} {gv sz lk se : Nat → Int32} (i k : Int32) (h : kRW W P nf wf pr kn pl gv sz lk se) :
    kcLoc kn sz gv i k = kmLoc kn gv sz i k ∧ (kcLoc kn sz gv i k = 0 → kRW W P nf wf pr kn pl gv sz (kput 10 lk i k) se) := by
  unfold kcLoc kmLoc
  by_cases ci : kwex kn i = false
  · rw [if_pos ci, if_pos ci]; exact ⟨rfl, fun z => absurd z (by decide)⟩
  rw [if_neg ci, if_neg ci]
  obtain ⟨w, hw, rfl⟩ := kwex_t ci h.1.1 h.1.2
  have F := kRW_rk h hw k
  have hp : w < 10 := by have := h.1.2; omega
  have key : (k = -1 ∨ ∃ o, o < nf w ∧ k = gv (5 * w + o)) → kRW W P nf wf pr kn pl gv sz (kput 10 lk (nI w) k) se := by
    intro hk
    obtain ⟨h1, h3, h4, h5⟩ := h
    refine ⟨h1, h3, fun v hv => ?_, h5⟩
    obtain ⟨b1, b2, b3, b4, b5⟩ := h4 v hv
    refine ⟨b1, b2, b3, b4, ?_⟩
    rw [kput_nI hp (by decide)]
    by_cases e : v = w
    · subst e; rw [pk_us]; exact hk
    · rw [pk_un e]; exact b5
  by_cases c : k = -1
  · rw [if_pos c, if_pos c]; exact ⟨rfl, fun _ => key (Or.inl c)⟩
  rw [if_neg c, if_neg c, F.2.2.2, F.2.1]
  by_cases c1 : kplo gv w k (nf w) = -1
  · rw [if_pos (nB_d0.mpr (Classical.not_not.mpr c1)), if_pos c1]; exact ⟨rfl, fun z => absurd z (by decide)⟩
  · rw [if_neg (fun z => nB_d0.mp z c1), if_neg c1]
    obtain ⟨q, q1, _, q2⟩ := kplo_j _ (kRW_mm h w hw).2 c1
    exact ⟨rfl, fun _ => key (Or.inr ⟨q, q1, q2.symm⟩)⟩
theorem kO_say {W P : Nat} {nf wf : Nat → Nat} {pr kn pl : Int32} {gv sz lk se : Nat → Int32} (i : Int32) (h : kRW W P nf wf pr kn pl gv sz lk se) :
    kcSay kn pl sz i = kmSay kn pl sz i ∧ (kcSay kn pl sz i = 0 → kput 6 se pl i = upd se P i ∧ ∃ wf, kRW W (P + 1) nf wf pr kn (pl + 1) gv sz lk (upd se P i)) := by
  unfold kcSay kmSay
  by_cases ci : kwex kn i = false
  · rw [if_pos ci, if_pos ci]; exact ⟨rfl, fun z => absurd z (by decide)⟩
  rw [if_neg ci, if_neg ci]
  obtain ⟨w, hw, rfl⟩ := kwex_t ci h.1.1 h.1.2
  have F := kRW_rk h hw 0
  obtain ⟨h1, ⟨h2, h3⟩, h4, h5⟩ := h
  rcases Nat.lt_or_ge P 6 with c | c
  · rw [if_neg (Classical.not_not.mpr (show pl < 6 by rw [h2]; exact nI_lt (b := 6) c (by decide))), if_neg (show ¬ pl = 6 from fun z => by rw [h2] at z; have := (nI_eq (b := 6) (by omega) (by decide)).mp z; omega), F.2.2.1]
    by_cases c0 : nI (nf w) = 0
    · rw [if_pos c0]; exact ⟨rfl, fun z => absurd z (by decide)⟩
    · rw [if_neg c0]
      have c1 : 1 ≤ nf w := by
        rcases Nat.eq_zero_or_pos (nf w) with z | z
        · exact absurd (by rw [z]; rfl) c0
        · exact z
      refine ⟨rfl, fun _ => ⟨by rw [h2, kput_nI c (by decide)], fun k => if k = P then w else wf k, h1, ⟨by rw [h2]; exact nI_1 P, by omega⟩, h4, fun k hk => ?_⟩⟩
      dsimp only
      by_cases e : k = P
      · rw [e, pk_us, if_pos rfl]; exact ⟨rfl, hw, c1⟩
      · rw [pk_un e, if_neg e]; exact h5 k (by omega)
  · have e : pl = 6 := by rw [h2, show P = 6 by omega]; rfl
    rw [if_pos (show ¬ pl < 6 by rw [e]; decide), if_pos e]
    exact ⟨rfl, fun z => absurd z (by decide)⟩
theorem kO_hush {W P : Nat} {nf wf : Nat → Nat} {pr kn pl : Int32} {gv sz lk se : Nat → Int32} (h : kRW W P nf wf pr kn pl gv sz lk se) : kRW W 0 nf wf pr kn 0 gv sz lk se :=
  ⟨h.1, ⟨rfl, by omega⟩, h.2.2.1, fun k hk => absurd hk (by omega)⟩
