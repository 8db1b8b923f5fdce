/-! p28: the best choice, told without the reference. -/
section PC
variable {A W P : Nat} {cn rk nf wf : Nat → Nat} {ad pr kn pl : Int32} {ps cs cv ms dp sx pa gv sz lk se : Nat → Int32}
theorem kR_fin (q : Int32) (h : kRN A cn rk ad pr ps cs cv ms dp sx pa) (hW : kRW W P nf wf pr kn pl gv sz lk se) :
    ∃ z, kVal P (kon nf wf lk) z ∧ kFin P (kon nf wf lk) (ksN wf gv lk) (kLL pr cs cv ms dp sx q) (nI (kwN (kLL pr cs cv ms dp sx q) (fun k => ksN wf gv lk k (z k)) P)) (fun k => nI (ksN wf gv lk k (z k))) := by
  obtain ⟨H, T⟩ := kR_tb (zs := fun _ => 0) (op := fun _ => 0) (al := fun _ => 0) (ho := fun _ => 0) q h hW
  have C := kRW_c hW
  have S := (kseek_s T 7 0 (fun _ => 0) (-1) (fun _ => 0) (fun _ => 0) rfl (Nat.zero_le _) (fun k hk => absurd hk (by omega)) (fun k hk => absurd hk (by omega)) (Or.inl ⟨rfl, fun s _ w => by obtain ⟨p, hp, _⟩ := w; omega⟩)).1
  rw [show nI (kwN (kMM wf gv lk (kLL pr cs cv ms dp sx q)) (kSF fun _ => 0) 0) = 0 from rfl, nI_0] at S
  have v5 : ∀ s, kVal P (kon nf wf lk) s → ∀ k, k < P → s k < 5 := fun s hs k hk => Nat.lt_of_lt_of_le (hs k hk) (C.2.1 k hk).2
  have wE : ∀ s, kVal P (kon nf wf lk) s → kwN (kMM wf gv lk (kLL pr cs cv ms dp sx q)) (fun k => 5 * k + s k) P = kwN (kLL pr cs cv ms dp sx q) (fun k => ksN wf gv lk k (s k)) P := fun s hs => kMM_w P (v5 s hs)
  have e0 : ∀ s : Nat → Nat, kLx 0 s (fun _ => 0) ∨ kEq 0 s (fun _ => 0) := fun s => Or.inr (fun k hk => absurd hk (by omega))
  rcases S with ⟨_, b⟩ | ⟨u, u1, _, u3, u4, u5, u6⟩
  · exact absurd (e0 (fun _ => 0)) (b (fun _ => 0) (fun k hk => (C.2.1 k hk).1))
  refine ⟨u, u1, u, u1, rfl, fun k _ => rfl, fun s hs => ?_, fun s hs hl => ?_⟩
  · have w : kwN (kMM wf gv lk (kLL pr cs cv ms dp sx q)) (fun k => 5 * k + s k) P ≤ kwN (kMM wf gv lk (kLL pr cs cv ms dp sx q)) (fun k => 5 * k + u k) P := u5 s hs (e0 s)
    rw [wE s hs, wE u u1] at w; exact w
  · have w : kwN (kMM wf gv lk (kLL pr cs cv ms dp sx q)) (fun k => 5 * k + s k) P < kwN (kMM wf gv lk (kLL pr cs cv ms dp sx q)) (fun k => 5 * k + u k) P := u6 s hs (e0 s) hl
    rw [wE s hs, wE u u1] at w; exact w
theorem kcho_n (hW : kRW W P nf wf pr kn pl gv sz lk se) : ∀ n, n ≤ P → ∃ m, 1 ≤ m ∧ m ≤ 5 ^ n ∧ kcho sz lk wf n = nI m := by
  have C := kRW_c hW
  intro n
  induction n with
  | zero => exact fun _ => ⟨1, Nat.le_refl _, Nat.le_refl _, rfl⟩
  | succ n ih =>
    intro hn
    obtain ⟨m, m1, m2, m3⟩ := ih (by omega)
    have o := C.2.1 n (by omega)
    refine ⟨m * kon nf wf lk n, Nat.mul_pos m1 o.1, Nat.mul_le_mul m2 o.2, ?_⟩
    show kcho sz lk wf n * kopm sz lk (wf n) = _
    rw [m3, C.1 n (by omega), pk_mul]
theorem kC_cho (hW : kRW W P nf wf pr kn pl gv sz lk se) : ∃ m, 1 ≤ m ∧ m ≤ 15625 ∧ kups (kchs lk sz se) pl 0 1 = nI m ∧ (P = 0 → m = 1) := by
  obtain ⟨m, m1, m2, m3⟩ := kcho_n hW P (Nat.le_refl _)
  refine ⟨m, m1, Nat.le_trans m2 (k5_6 hW.2.1.2), (kR_choices hW).trans m3, fun e => ?_⟩
  subst e
  have : m ≤ 1 := m2
  omega
/-- the sum of the likes of the places chosen, in the law's order -/
theorem kwN_1 {lk : Nat → Nat → Nat} {sf : Nat → Nat} {p : Nat} : kwNi lk sf p p (kwN lk sf p) = kwN lk sf (p + 1) := rfl
theorem kwNi_1 {lk : Nat → Nat → Nat} {sf : Nat → Nat} {p b y : Nat} : kwNi lk sf p b y + lk (sf b) (sf p) = kwNi lk sf p (b + 1) y := rfl
end PC
