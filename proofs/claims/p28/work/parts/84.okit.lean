/-! p28: an object's cells as one world; calls on it, with other cells beside it. -/
abbrev kXS : Type := Int32 × Int32 × (Nat → Int32) × (Nat → Int32) × (Nat → Int32) × (Nat → Int32) × (Nat → Int32) × (Nat → Int32) × (Nat → Int32)
def oW (cI : ClassId) (a : Nat → Nat) (c : kCS) (x : kXS) : va_W :=
  [(a 0, .inr (3, [.ref (a 1), .ref (a 9), .ref (a 14)])), (a 1, .inr (1, [.int (kAd c), .int (kPr c), .ref (a 2), .ref (a 3), .ref (a 4), .ref (a 5), .ref (a 6), .ref (a 7), .ref (a 8)])), (a 2, .inl (cI, 30, .inl (kPa c))), (a 3, .inl (cI, 30, .inl (kCs c))), (a 4, .inl (cI, 30, .inl (kCo c))), (a 5, .inl (cI, 30, .inl (kMa c))), (a 6, .inl (cI, 30, .inl (kDe c))), (a 7, .inl (cI, 900, .inl (kSx c))), (a 8, .inl (cI, 30, .inl x.2.2.1)), (a 9, .inr (2, [.int (kKn c), .int (kPl c), .ref (a 10), .ref (a 11), .ref (a 12), .ref (a 13)])), (a 10, .inl (cI, 50, .inl (kGv c))), (a 11, .inl (cI, 10, .inl (kSz c))), (a 12, .inl (cI, 10, .inl (kLk c))), (a 13, .inl (cI, 6, .inl (kSe c))), (a 14, .inr (0, [.int x.1, .int x.2.1, .ref (a 15), .ref (a 16), .ref (a 17), .ref (a 18), .ref (a 19), .ref (a 20)])), (a 15, .inl (cI, 6, .inl x.2.2.2.1)), (a 16, .inl (cI, 30, .inl x.2.2.2.2.1)), (a 17, .inl (cI, 900, .inl x.2.2.2.2.2.1)), (a 18, .inl (cI, 7, .inl x.2.2.2.2.2.2.1)), (a 19, .inl (cI, 6, .inl x.2.2.2.2.2.2.2.1)), (a 20, .inl (cI, 6, .inl x.2.2.2.2.2.2.2.2))]
theorem kc_X_mono {S S' : Type} {l : Launch} {y : MethodName} {wl : List Cond} {fr lo mc ms : Nat} {D : va_G} {cI : ClassId} {as : List Value} {ws : va_W} {post : Int32 → S → Prop} {w1 : S → va_W} {px : String → Prop} {post' : Int32 → S' → Prop} {w1' : S' → va_W} {px' : String → Prop} (h : kc_X l y wl fr lo mc ms D cI as ws post w1 px) (hp : ∀ r u, post r u → ∃ u', post' r u' ∧ w1' u' = w1 u) (hx : ∀ E, px E → px' E) : kc_X l y wl fr lo mc ms D cI as ws post' w1' px' := by
  intro sz
  refine MetFree.mono (h sz) (fun _ _ q => q) (fun _ _ _ _ _ q => q) (fun a s o t _ q => ?_)
  rcases q with ⟨⟨⟨r, u, h1, h2, h3⟩, hF⟩, hL⟩ | ⟨q, h1, E, ce, L, ⟨u, u1, u2, u3⟩, h3⟩
  · obtain ⟨u', p1, p2⟩ := hp r u h2
    exact Or.inl ⟨⟨⟨r, u', h1, p1, by show va_P D vwCl (w1' u') t.heap ∧ va_D (va_A ws sz) (w1' u'); rw [p2]; exact h3⟩, hF⟩, hL⟩
  · exact Or.inr ⟨q, h1, E, ce, L, ⟨u, u1, hx E u2, u3⟩, h3⟩
theorem oOr_t {p : Prop} [Decidable p] {c c1 : kCS} {r : Int32} (h : p) : oOr p c r c1 = (r, c1) := if_pos h
theorem oOr_f {p : Prop} [Decidable p] {c c1 : kCS} {r : Int32} (h : ¬ p) : oOr p c r c1 = (-99999, c) := if_neg h
section KOW
variable {D : va_G} {cl : List vw_C} {H H1 : Heap} {A A0 : Nat → Prop} {u v w wc wr w1 : va_W}
theorem kP_l (h : va_P D cl (u ++ v) H) : va_P D cl u H := fun k q hq => h k q (by
  obtain ⟨hk, _⟩ := List.getElem?_eq_some_iff.mp hq
  rw [List.getElem?_append_left hk]; exact hq)
theorem kP_r (h : va_P D cl (u ++ v) H) : va_P D cl v H := fun k q hq => h (u.length + k) q (by
  rw [List.getElem?_append_right (by omega), Nat.add_sub_cancel_left]; exact hq)
theorem kP_sw (h : va_P D cl (u ++ v) H) : va_P D cl (v ++ u) H := va_P.app (kP_r h) (kP_l h)
theorem kD_i {k : Nat} {q : Nat × va_E} (hq : u[k]? = some q) : (u ++ v)[k]? = some q ∧ k < u.length := by
  obtain ⟨hk, _⟩ := List.getElem?_eq_some_iff.mp hq
  exact ⟨by rw [List.getElem?_append_left hk]; exact hq, hk⟩
theorem kD_j {k : Nat} {q : Nat × va_E} (hq : v[k]? = some q) : (u ++ v)[u.length + k]? = some q := by
  rw [List.getElem?_append_right (by omega), Nat.add_sub_cancel_left]; exact hq
theorem kD_l (h : va_D A (u ++ v)) : va_D A u := ⟨fun i j p q hi hj e => h.1 i j p q (kD_i hi).1 (kD_i hj).1 e, fun k q hq => h.2 k q (kD_i hq).1⟩
theorem kD_r (h : va_D A (u ++ v)) : va_D A v := ⟨fun i j p q hi hj e => by have := h.1 _ _ p q (kD_j (u := u) hi) (kD_j (u := u) hj) e; omega, fun k q hq => h.2 _ q (kD_j (u := u) hq)⟩
theorem kD_x (h : va_D A (u ++ v)) : ∀ (i j : Nat) (p q : Nat × va_E), u[i]? = some p → v[j]? = some q → p.1 ≠ q.1 := fun i j p q hi hj e => by
  have h1 := kD_i (v := v) hi
  have := h.1 i _ p q h1.1 (kD_j (u := u) hj) e
  have := h1.2
  omega
theorem kD_sw (h : va_D A (u ++ v)) : va_D A (v ++ u) := va_D.app (kD_r h) (kD_l h) (fun i j p q hi hj e => kD_x h j i q p hj hi e.symm)
theorem kP_as (h : va_P D cl (u ++ (v ++ w)) H) : va_P D cl ((u ++ v) ++ w) H := by rw [List.append_assoc]; exact h
theorem kD_as (h : va_D A (u ++ (v ++ w))) : va_D A ((u ++ v) ++ w) := by rw [List.append_assoc]; exact h
theorem kP_sa (h : va_P D cl ((u ++ v) ++ w) H) : va_P D cl (u ++ (v ++ w)) H := by rw [← List.append_assoc]; exact h
theorem kD_sa (h : va_D A ((u ++ v) ++ w)) : va_D A (u ++ (v ++ w)) := by rw [← List.append_assoc]; exact h
/-- the second ahead of the first -/
theorem kP_t (h : va_P D cl (u ++ (v ++ w)) H) : va_P D cl (v ++ (u ++ w)) H := va_P.app (kP_l (kP_r h)) (va_P.app (kP_l h) (kP_r (kP_r h)))
theorem kD_t (h : va_D A (u ++ (v ++ w))) : va_D A (v ++ (u ++ w)) := by
  have h1 := kD_as h
  exact kD_sa (va_D.app (kD_sw (kD_l h1)) (kD_r h1) (fun i j p q hi hj e => by
    obtain ⟨k, hk⟩ := List.getElem?_of_mem (show p ∈ u ++ v from by
      have := List.mem_of_getElem? hi
      exact List.mem_append.mpr ((List.mem_append.mp this).symm))
    exact kD_x h1 k j p q hk hj e))
/-- the first and the third ahead of the second -/
theorem kP_o (h : va_P D cl (u ++ (v ++ w)) H) : va_P D cl ((u ++ w) ++ v) H := kP_sw (kP_t h)
theorem kD_o (h : va_D A (u ++ (v ++ w))) : va_D A ((u ++ w) ++ v) := kD_sw (kD_t h)
theorem kP_q (h : va_P D cl ((u ++ w) ++ v) H) : va_P D cl (u ++ (v ++ w)) H := kP_t (kP_sw h)
theorem kD_q (h : va_D A ((u ++ w) ++ v)) : va_D A (u ++ (v ++ w)) := kD_t (kD_sw h)
theorem kF_l {H0 : Heap} {locs : List Loc} (hD : va_D A0 (wc ++ wr)) (hS : va_S A0 H0 H locs) (hA : ∀ q, H0.size ≤ q → A0 q) : ∀ q, va_A wc H.size q → A0 q := by
  intro q h
  rcases h with ⟨k, e, h⟩ | h
  · exact hD.2 k (q, e) (kD_i h).1
  · exact hA q (Nat.le_trans hS.1 h)
theorem kF_0 {H0 : Heap} {locs : List Loc} (hD : va_D A0 wc) (hS : va_S A0 H0 H locs) (hA : ∀ q, H0.size ≤ q → A0 q) : ∀ q, va_A wc H.size q → A0 q := by
  intro q h
  rcases h with ⟨k, e, h⟩ | h
  · exact hD.2 k (q, e) h
  · exact hA q (Nat.le_trans hS.1 h)
theorem kj_O (hP : va_P D cl (wc ++ wr) H) (hD : va_D A0 (wc ++ wr)) (hk : ∀ q : Nat, q < H.size → ¬ va_A wc H.size q → H1[q]? = H[q]?) (hF : ∀ q, va_A wc H.size q → A0 q) (hP1 : va_P D cl w1 H1) (hD1 : va_D (va_A wc H.size) w1) : va_P D cl (w1 ++ wr) H1 ∧ va_D A0 (w1 ++ wr) := by
  have apart : ∀ (k : Nat) (q : Nat × va_E), wr[k]? = some q → q.1 < H.size ∧ ¬ va_A wc H.size q.1 := by
    intro k q hq
    have hl := (kP_r hP k q hq).lt
    refine ⟨hl, fun h => ?_⟩
    rcases h with ⟨k2, e, h⟩ | h
    · exact kD_x hD k2 k (q.1, e) q h hq rfl
    · omega
  refine ⟨va_P.app hP1 (fun k q hq => ?_), va_D.app (hD1.weaken (fun k q _ h => hF q.1 h)) (kD_r hD) (fun i j x y hx hy e => ?_)⟩
  · obtain ⟨g1, g2⟩ := apart k q hq
    exact (kP_r hP k q hq).kept (hk q.1 g1 g2)
  · exact (apart j y hy).2 (by rw [← e]; exact hD1.2 i x hx)
end KOW
section KOP
variable {D : va_G} {cI : ClassId} {s : State} {H : Heap} {A : Nat → Prop} {locs : List Loc} {as : List Value} {wc wr : va_W}
theorem kp_OS (hP : va_P D vwCl (wc ++ wr) H) (hD : va_D A (wc ++ wr)) (hK : kk_K D cI s) (hX : kx_s s) (hZ : kx_z A s s.heap) (hS : va_S A s.heap H locs) (hA : ∀ q, s.heap.size ≤ q → A q) : PreS s H (kp_X D cI as H.size wc) as := kp_XS (kP_l hP) (kD_l hD) hK hX (kx_zfor hZ hS (kF_l hD hS hA))
theorem kp_OV {b : Nat} (hP : va_P D vwCl (wc ++ wr) H) (hD : va_D A (wc ++ wr)) (hK : kk_K D cI s) (hX : kx_s s) (hZ : kx_z A s s.heap) (hS : va_S A s.heap H locs) (hA : ∀ q, s.heap.size ≤ q → A q) (q0 ci : Nat) {C : String} {T : u_T} {N : Nat} {fs : List Value} (hc : vwCl[ci]? = some (C, T, N)) (he : wc[q0]? = some (b, .inr (ci, fs))) : PreV s H C b (kp_X D cI (.ref b :: as) H.size wc) as := kp_XV (kP_l hP) (kD_l hD) hK hX (kx_zfor hZ hS (kF_l hD hS hA)) q0 ci hc he
theorem kp_0S (hP : va_P D vwCl wc H) (hD : va_D A wc) (hK : kk_K D cI s) (hX : kx_s s) (hZ : kx_z A s s.heap) (hS : va_S A s.heap H locs) (hA : ∀ q, s.heap.size ≤ q → A q) : PreS s H (kp_X D cI as H.size wc) as := kp_XS hP hD hK hX (kx_zfor hZ hS (kF_0 hD hS hA))
theorem kp_0V {b : Nat} (hP : va_P D vwCl wc H) (hD : va_D A wc) (hK : kk_K D cI s) (hX : kx_s s) (hZ : kx_z A s s.heap) (hS : va_S A s.heap H locs) (hA : ∀ q, s.heap.size ≤ q → A q) (q0 ci : Nat) {C : String} {T : u_T} {N : Nat} {fs : List Value} (hc : vwCl[ci]? = some (C, T, N)) (he : wc[q0]? = some (b, .inr (ci, fs))) : PreV s H C b (kp_X D cI (.ref b :: as) H.size wc) as := kp_XV hP hD hK hX (kx_zfor hZ hS (kF_0 hD hS hA)) q0 ci hc he
end KOP
section KOQ
variable {p : Program} {l : Launch} {e : Env} {R : Room} {s : State} {m : MethodId} {args : Array Value} {below : List Frame} {meth : Method} {c : Code} {H : Heap} {locs : List Loc} {cells slots k n : Nat} {Q : State → Prop} {pc : Nat} {ls : Array Slot} {rest st0 : List Value} {a : Array Value} {A : Nat → Prop} {H0 : Heap} {D : va_G} {cl : List vw_C} {wc wr : va_W} {S : Type} {post : Int32 → S → Prop} {w1 : S → va_W} {px : String → Prop}
/-- a call on cells that stand ahead of others -/
theorem kq_O (hr : vx_Run p l e R s m args below meth c H locs cells slots k n (F0 m pc ls st0) rest (va_Qi post (fun u t => va_P D cl (w1 u) t.heap ∧ va_D (va_A wc H.size) (w1 u)) (va_A wc H.size) a) (vx_X (fun (_ : Unit) => True) (fun E _ _ => px E) (va_A [] H.size)) (va_A wc H.size)) (hP : va_P D cl (wc ++ wr) H) (hD : va_D A (wc ++ wr)) (hS : va_S A H0 H locs) (hA : ∀ q, H0.size ≤ q → A q)
    (kx : ∀ (E : String) (ce : Cell) (q9 : Addr) (H1 : Heap) (locs1 : List Loc), px E → va_P D cl (wc ++ wr) H1 → va_S A H0 H1 locs1 → H1[q9]? = some ce → ce.vm = .none → s.vm.findClass E = some ce.cls → vx_W p l e R s m args below meth c H1 locs1 (cells + k) (slots + n) Q (F0 m pc ls rest) q9)
    (kk : ∀ (r : Int32) (u : S) (H1 : Heap) (locs1 : List Loc), post r u → va_P D cl (w1 u ++ wr) H1 → va_D A (w1 u ++ wr) → va_S A H0 H1 locs1 → W p l e R s m args below meth c H1 locs1 (cells + k) (slots + n) Q (F0 m (pc + 3) ls (.int r :: rest))) : W p l e R s m args below meth c H locs cells slots Q (F0 m pc ls st0) := by
  have hF := kF_l hD hS hA
  refine vx_calli hr hS (fun q _ h => hF q h) hF (fun q h z => absurd z (kx_A0 h)) (fun E ce q9 u t H1 locs1 ht1 hvm hu hB hz hk hS1 hcell hv hcl => ?_) (fun r u t H1 locs1 ht hvm hw hB hz hk hS => ?_)
  · exact kx E ce q9 H1 locs1 hB (hP.kept fun k q hq => hk q.1 ((hP k q hq).lt) (kx_A0 ((hP k q hq).lt))) hS1 hcell hv hcl
  · obtain ⟨hP1, hD1⟩ := hB
    rw [ht] at hP1
    obtain ⟨hP2, hD2⟩ := kj_O hP hD hk hF hP1 hD1
    exact kk r u H1 locs1 hw hP2 hD2 hS
/-- .. on all cells -/
theorem kq_0 (hr : vx_Run p l e R s m args below meth c H locs cells slots k n (F0 m pc ls st0) rest (va_Qi post (fun u t => va_P D cl (w1 u) t.heap ∧ va_D (va_A wc H.size) (w1 u)) (va_A wc H.size) a) (vx_X (fun (_ : Unit) => True) (fun E _ _ => px E) (va_A [] H.size)) (va_A wc H.size)) (hP : va_P D cl wc H) (hD : va_D A wc) (hS : va_S A H0 H locs) (hA : ∀ q, H0.size ≤ q → A q)
    (kx : ∀ (E : String) (ce : Cell) (q9 : Addr) (H1 : Heap) (locs1 : List Loc), px E → va_P D cl wc H1 → va_S A H0 H1 locs1 → H1[q9]? = some ce → ce.vm = .none → s.vm.findClass E = some ce.cls → vx_W p l e R s m args below meth c H1 locs1 (cells + k) (slots + n) Q (F0 m pc ls rest) q9)
    (kk : ∀ (r : Int32) (u : S) (H1 : Heap) (locs1 : List Loc), post r u → va_P D cl (w1 u) H1 → va_D A (w1 u) → va_S A H0 H1 locs1 → W p l e R s m args below meth c H1 locs1 (cells + k) (slots + n) Q (F0 m (pc + 3) ls (.int r :: rest))) : W p l e R s m args below meth c H locs cells slots Q (F0 m pc ls st0) := by
  have hF := kF_0 hD hS hA
  refine vx_calli hr hS (fun q _ h => hF q h) hF (fun q h z => absurd z (kx_A0 h)) (fun E ce q9 u t H1 locs1 ht1 hvm hu hB hz hk hS1 hcell hv hcl => ?_) (fun r u t H1 locs1 ht hvm hw hB hz hk hS => ?_)
  · exact kx E ce q9 H1 locs1 hB (hP.kept fun k q hq => hk q.1 ((hP k q hq).lt) (kx_A0 ((hP k q hq).lt))) hS1 hcell hv hcl
  · obtain ⟨hP1, hD1⟩ := hB
    rw [ht] at hP1
    exact kk r u H1 locs1 hw hP1 (hD1.weaken (fun k q _ h => hF q.1 h)) hS
/-- a call that doesn't throw, on all cells (hush) -/
theorem kq_0W (hr : va_Run p l e R s m args below meth c H locs cells slots 0 0 (F0 m pc ls st0) rest (va_Qi post (fun u t => va_P D cl (w1 u) t.heap ∧ va_D (va_A wc H.size) (w1 u)) (va_A wc H.size) a) (va_A wc H.size)) (hP : va_P D cl wc H) (hD : va_D A wc) (hS : va_S A H0 H locs) (hA : ∀ q, H0.size ≤ q → A q)
    (kk : ∀ (r : Int32) (u : S) (H1 : Heap) (locs1 : List Loc), post r u → va_P D cl (w1 u) H1 → va_D A (w1 u) → va_S A H0 H1 locs1 → W p l e R s m args below meth c H1 locs1 cells slots Q (F0 m (pc + 3) ls (.int r :: rest))) : W p l e R s m args below meth c H locs cells slots Q (F0 m pc ls st0) := by
  have hF := kF_0 hD hS hA
  refine va_calli hr hS (fun q _ h => hF q h) hF (fun r u t H1 locs1 ht hvm hw hB hz hk hS => ?_)
  obtain ⟨hP1, hD1⟩ := hB
  rw [ht] at hP1
  exact kk r u H1 locs1 hw hP1 (hD1.weaken (fun k q _ h => hF q.1 h)) hS
/-- a loop that counts, its calls' room growing with it -/
theorem kl_forc {head N kc kn c0 s0 : Nat} (I : Nat → Heap → List Loc → Array Slot → Prop)
    (step : ∀ j : Nat, j < N → ∀ (H : Heap) (locs : List Loc) (ls : Array Slot), I j H locs ls → (∀ (H1 : Heap) (locs1 : List Loc) (ls1 : Array Slot), I (j + 1) H1 locs1 ls1 → W p l e R s m args below meth c H1 locs1 (c0 + kc * (j + 1)) (s0 + kn * (j + 1)) Q (F0 m head ls1 [])) → W p l e R s m args below meth c H locs (c0 + kc * j) (s0 + kn * j) Q (F0 m head ls []))
    (exit : ∀ (H : Heap) (locs : List Loc) (ls : Array Slot), I N H locs ls → W p l e R s m args below meth c H locs (c0 + kc * N) (s0 + kn * N) Q (F0 m head ls []))
    {H : Heap} {locs : List Loc} {ls : Array Slot} (h : I 0 H locs ls) : W p l e R s m args below meth c H locs c0 s0 Q (F0 m head ls []) := by
  have key : ∀ (n j : Nat), j + n = N → ∀ (H : Heap) (locs : List Loc) (ls : Array Slot), I j H locs ls → W p l e R s m args below meth c H locs (c0 + kc * j) (s0 + kn * j) Q (F0 m head ls []) := by
    intro n
    induction n with
    | zero => intro j hj H locs ls h; have : j = N := by omega
              subst this; exact exit H locs ls h
    | succ n ih => intro j hj H locs ls h; exact step j (by omega) H locs ls h (fun H1 l1 s1 h1 => ih (j + 1) (by omega) H1 l1 s1 h1)
  exact key N 0 (by omega) H locs ls h
end KOQ
section KOE
theorem ke_XZ {p : Program} {l : Launch} {e : Env} {R : Room} {s : State} {m : MethodId} {args : Array Value} {below : List Frame} {meth : Method} {c : Code} {H : Heap} {locs : List Loc} {D : va_G} {ws : va_W} {cc : ByteArray} {pc : Nat} {ls : Array Slot} {v : Int32} {cells slots mc ms : Nat} {XC : String → State → State → Prop} {S : Type} {post : Int32 → S → Prop} {w1 : S → va_W} (hx : p.tables.exec = Jvm.exec) (hb : c.code = cc) (hr : meth.sig.returnType = some .boolean) (hlocks : meth.locks = false) (u : S) (hP : va_P D vwCl (w1 u) H) (hD : va_D (va_A ws s.heap.size) (w1 u)) (hS : va_S (va_A ws s.heap.size) s.heap H locs) (hc : cells ≤ mc) (hs : slots ≤ ms) (hdg : decode cc pc = .ok (.ireturn, 1)) (b : Bool) (hv : v = nB b) (hq : post (nB b) u) :
    W p l e R s m args below meth c H locs cells slots (vx_MQ below (va_Qi post (fun u t => va_P D vwCl (w1 u) t.heap ∧ va_D (va_A ws s.heap.size) (w1 u)) (va_A ws s.heap.size)) XC args s mc ms (va_A ws s.heap.size)) (F0 m pc ls [.int v]) := by
  subst hv
  exact vx_ret (W.widen hc hs (W.zret hx hb hr (nB_nar b) (fun t ht hW => ⟨⟨nB b, u, rfl, hq, by rw [ht]; exact hP, hD⟩, hS.F ht⟩) hS.2.2 hdg hlocks))
/-- a method with a table of its own -/
theorem ks_T {S : Type} {l : Launch} {y : MethodName} {wl ws' : List Cond} {fr lo nL mc ms : Nat} {D : va_G} {cI : ClassId} {as : List Value} {ws : va_W} {cc : ByteArray} {ret : Option FieldType} {px : String → Prop} {hh : List (Nat × Nat × Nat × Nat)} {post : Int32 → S → Prop} {w1 : S → va_W} (hy : plainName y.cls = true) (hw : wl = Cond.codeWith y cc nL ret hh :: ws') (hn : (lg_sl as).length ≤ nL)
    (body : ∀ (p : Program) (e : Env) (s : State) (m : MethodId) (below : List Frame) (meth : Method) (c : Code) (ls : Array Slot), kf_At p s m meth c y cc nL ret wl as.toArray → c.exceptionTable.toList = tableOf hh → va_P D vwCl ws s.heap → kk_K D cI s → kx_s s → kx_z (va_A ws s.heap.size) s s.heap → va_S (va_A ws s.heap.size) s.heap s.heap [] → (∀ q, s.heap.size ≤ q → va_A ws s.heap.size q) → va_D (va_A ws s.heap.size) ws → lv_has ls nL (lv_args 0 as) →
      W p l e (kr_x fr lo mc ms) s m as.toArray below meth c s.heap [] 0 0 (vx_MQ below (va_Qi post (fun u t => va_P D vwCl (w1 u) t.heap ∧ va_D (va_A ws s.heap.size) (w1 u)) (va_A ws s.heap.size)) (vx_X (fun (_ : Unit) => True) (fun E _ _ => px E) (va_A [] s.heap.size)) as.toArray s mc ms (va_A ws s.heap.size)) (F0 m 0 ls [])) : kc_X l y wl fr lo mc ms D cI as ws post w1 px := by
  intro sz
  refine vx_ofWH (cc := cc) (maxL := nL) (ret := ret) (hh := hh) hy hw ?_
  intro p e s m args below meth c s₁ B hml hv
  obtain ⟨rfl, hsz, hP, hK, hD, hX, hZ⟩ := hv
  subst hsz
  have hl := lv_entry as (n := nL) hn
  have hts := atoms_spec (ws := wl) B.pre
  rw [lg_entry_eq]
  exact body p e s m below meth c _ ⟨B.exec, B.bytes, B.returns, hml, findClass_of_methodNamed B.named, hts, B.notSynchronized⟩ (vx_table (x := y) B (hts _ (by rw [hw]; exact List.mem_cons_self))) hP hK hX hZ va_S.rf (fun q h => Or.inr h) hD.self hl
end KOE
