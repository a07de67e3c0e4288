/-! what the law's sums say, kept by every operation -/
def tot (g : Nat → Nat → Int32) : Int32 := g 0 0 + nI 100 * (g 1 0 + g 1 1 + g 1 2) + vAll g 8 + g 0 2 + vSum (g 5) 0 8
def IV (g : Nat → Nat → Int32) (ad : Int32) : Prop := okS g ∧ (∃ f, reS g f) ∧ tot g = ad ∧ vSum (g 4) 0 8 = g 0 2 + g 0 3
theorem vA_cg {g g' : Nat → Nat → Int32} : ∀ n, (∀ s, s < n → vSum (g' 7) (s * 6) (zh g' s) = vSum (g 7) (s * 6) (zh g s)) → vAll g' n = vAll g n
  | 0, _ => rfl
  | n + 1, h => by
    show vAll g' n + vSum (g' 7) (n * 6) (zh g' n) = vAll g n + vSum (g 7) (n * 6) (zh g n)
    rw [vA_cg n (fun s hs => h s (by omega)), h n (by omega)]
theorem vA_pt {g g' : Nat → Nat → Int32} {s : Nat} {x : Int32} (h1 : vSum (g' 7) (s * 6) (zh g' s) = vSum (g 7) (s * 6) (zh g s) + x) : ∀ n, (∀ i, i < n → i ≠ s → vSum (g' 7) (i * 6) (zh g' i) = vSum (g 7) (i * 6) (zh g i)) → (s < n → vAll g' n = vAll g n + x) ∧ (n ≤ s → vAll g' n = vAll g n)
  | 0, _ => ⟨fun h => absurd h (Nat.not_lt_zero _), fun _ => rfl⟩
  | n + 1, h => by
    obtain ⟨i1, i2⟩ := vA_pt h1 n (fun i hi => h i (by omega))
    have e : vAll g' (n + 1) = vAll g' n + vSum (g' 7) (n * 6) (zh g' n) := rfl
    have e2 : vAll g (n + 1) = vAll g n + vSum (g 7) (n * 6) (zh g n) := rfl
    rw [e, e2]
    refine ⟨fun q => ?_, fun q => ?_⟩
    · by_cases c : n = s
      · subst c
        rw [i2 (Nat.le_refl _), h1, Int32.add_assoc]
      · rw [i1 (by omega), h n (by omega) c]
        generalize vAll g n = A
        generalize vSum (g 7) (n * 6) (zh g n) = B
        grind
    · rw [i2 (by omega), h n (by omega) (by omega)]
def mgA (g : Nat → Nat → Int32) : Nat → Int32
  | 0 => nI 0
  | s + 1 => mgA g s + mgI g s (zh g s)
theorem vA_mg {g g' : Nat → Nat → Int32} : ∀ n, (∀ s, s < n → vSum (g' 7) (s * 6) (zh g' s) = vSum (g 7) (s * 6) (zh g s) - mgI g s (zh g s)) → vAll g' n = vAll g n - mgA g n
  | 0, _ => show nI 0 = nI 0 - nI 0 by decide +kernel
  | n + 1, h => by
    have e : vAll g' (n + 1) = vAll g' n + vSum (g' 7) (n * 6) (zh g' n) := rfl
    have e2 : vAll g (n + 1) = vAll g n + vSum (g 7) (n * 6) (zh g n) := rfl
    have e3 : mgA g (n + 1) = mgA g n + mgI g n (zh g n) := rfl
    rw [e, e2, e3, vA_mg n (fun s hs => h s (by omega)), h n (by omega)]
    generalize vAll g n = A
    generalize vSum (g 7) (n * 6) (zh g n) = B
    generalize mgA g n = C
    generalize mgI g n (zh g n) = D
    grind
theorem g5_mg {g : Nat → Nat → Int32} : ∀ n, vSum (fun s => g 5 s + mgI g s (zh g s)) 0 n = vSum (g 5) 0 n + mgA g n
  | 0 => show nI 0 = nI 0 + nI 0 by decide +kernel
  | n + 1 => by
    have e : vSum (fun s => g 5 s + mgI g s (zh g s)) 0 (n + 1) = vSum (fun s => g 5 s + mgI g s (zh g s)) 0 n + (g 5 (0 + n) + mgI g (0 + n) (zh g (0 + n))) := rfl
    have e2 : vSum (g 5) 0 (n + 1) = vSum (g 5) 0 n + g 5 (0 + n) := rfl
    have e3 : mgA g (n + 1) = mgA g n + mgI g n (zh g n) := rfl
    rw [e, e2, e3, g5_mg n, Nat.zero_add]
    generalize vSum (g 5) 0 n = A
    generalize g 5 n = B
    generalize mgA g n = C
    generalize mgI g n (zh g n) = D
    grind
/-- an hour in the sun: what melts is what the faces tell -/
theorem ml_all {g : Nat → Nat → Int32} {f : Nat → Int32} {a m : Nat} (hm : m = 48) (O : okS g) (H : reS g f) (ha : a < 12) (ea : g 0 4 = nI a) : mlS g (nI a) = mgA g 8 ∧ vAll (mlG g (nI a)) 8 = vAll g 8 - mgA g 8 ∧ vSum (mlG g (nI a) 5) 0 8 = vSum (g 5) 0 8 + mgA g 8 ∧ ∀ s, s < 8 → vSum (mlG g (nI a) 7) (s * 6) (zh (mlG g (nI a)) s) = svC g s 1 - mgI g s (zh g s) := by
  have e8 : f 8 = nI a := by rw [H.2.2.2.2.2.2.1, ea]
  have K := okK_of O
  have R := stR_of H
  have hL : ∀ s, s < 8 → vSum (mlO g (nI a) 8) (s * 6) (zh g s) = mgI g s (zh g s) := fun s hs => mg_sum O ea O.1 hs rfl (fun _ _ => rfl) _ (Nat.le_refl _)
  have hc : ∀ s, s < 8 → vSum (mlG g (nI a) 7) (s * 6) (zh (mlG g (nI a)) s) = vSum (g 7) (s * 6) (zh g s) - mgI g s (zh g s) := fun s hs => by rw [ml_sum ha e8 K R hs, hL s hs]
  obtain ⟨f1, f2, f3, f4⟩ := ps_F f m (by omega)
  have hF1 : ∀ j, j < 36 ∨ (44 ≤ j ∧ j < 92) ∨ 140 ≤ j → psF f m j = f j := fun j hj => f1 j (by omega)
  have hF2 : ∀ i, i < 48 → psF f m (92 + i) = f (92 + i) - psV f i := fun i hi => f2 i (by omega)
  obtain ⟨m1, m2⟩ := mtS_v ha e8 K R hF1 hF2 (fun s hs t ht => mlO_v (nI a) K.1 8 (Nat.le_refl _) s hs t ht) 8 (Nat.le_refl _)
  have m3 := m2 (fun s => g 5 s + mgI g s (zh g s)) (fun s hs => by rw [hL s hs])
  rw [g5_mg, ← m1] at m3
  have m4 : mlS g (nI a) = mgA g 8 := by
    show mtS (va_up g 8 (mlO g (nI a) 8)) 8 = _
    generalize mtS (va_up g 8 (mlO g (nI a) 8)) 8 = A at m3 ⊢
    generalize vSum (g 5) 0 8 = B at m3
    generalize mgA g 8 = C at m3 ⊢
    grind
  obtain ⟨X, x0, -, -, x3, x4, -, -, -⟩ := re_ml1 hm ha e8 K R
  refine ⟨m4, vA_mg 8 hc, ?_, fun s hs => hc s hs⟩
  rw [x0, x4, ← x3, m4]
theorem n_dead : ¬ (nI 0 = nI 1) ∧ ¬ (nI 0 = nI 2) ∧ ¬ (nI 0 = nI 3) := by decide +kernel
theorem IV_as {g : Nat → Nat → Int32} {ad : Int32} (I : IV g ad) {u : Nat} (hu : u < 2 ^ 32) (h0 : srC g (nI u) = nI 0) : IV (tsG g (nI u)) (ad + nI u) := by
  obtain ⟨O, ⟨f, H⟩, h1, h2⟩ := I
  rcases re_as O H hu with ⟨q, -⟩ | ⟨q, -⟩ | ⟨-, -, O2, H2, -⟩
  · exact absurd (h0.symm.trans q) n_dead.2.1
  · exact absurd (h0.symm.trans q) n_dead.2.2
  · refine ⟨O2, ⟨_, H2⟩, ?_, h2⟩
    have t : tot (tsG g (nI u)) = (g 0 0 + nI u) + nI 100 * (g 1 0 + g 1 1 + g 1 2) + vAll (tsG g (nI u)) 8 + g 0 2 + vSum (g 5) 0 8 := rfl
    rw [t, vA_cg (g := g) (g' := tsG g (nI u)) 8 (fun s hs => rfl), ← h1]
    unfold tot
    generalize vAll g 8 = A
    generalize vSum (g 5) 0 8 = B
    grind
theorem IV_pr {g : Nat → Nat → Int32} {ad : Int32} (I : IV g ad) {k b : Nat} (hk : k < 3) (hb : b < 2 ^ 32) (h0 : prC g k (nI b) = nI 0) : IV (mkG g k (nI b)) ad := by
  obtain ⟨O, ⟨f, H⟩, h1, h2⟩ := I
  rcases re_pr O H (show k < 2 ^ 32 by omega) hb with ⟨q, -⟩ | ⟨q, -⟩ | ⟨-, -, -, O2, H2, -⟩
  · exact absurd (h0.symm.trans q) n_dead.2.1
  · exact absurd (h0.symm.trans q) n_dead.2.2
  · refine ⟨O2, ⟨_, H2⟩, ?_, h2⟩
    have t : tot (mkG g k (nI b)) = (g 0 0 - nI b * nI 100) + nI 100 * (upd (g 1) k (g 1 k + nI b) 0 + upd (g 1) k (g 1 k + nI b) 1 + upd (g 1) k (g 1 k + nI b) 2) + vAll (mkG g k (nI b)) 8 + g 0 2 + vSum (g 5) 0 8 := rfl
    rw [t, vA_cg (g := g) (g' := mkG g k (nI b)) 8 (fun s hs => rfl), ← h1]
    unfold tot
    generalize vAll g 8 = A
    generalize vSum (g 5) 0 8 = B
    rcases (show k = 0 ∨ k = 1 ∨ k = 2 by omega) with rfl | rfl | rfl
    · rw [pk_us, pk_un (by decide), pk_un (by decide)]
      grind
    · rw [pk_us, pk_un (by decide), pk_un (by decide)]
      grind
    · rw [pk_us, pk_un (by decide), pk_un (by decide)]
      grind
theorem IV_st {g : Nat → Nat → Int32} {ad : Int32} (I : IV g ad) {s k : Nat} (hs : s < 8) (hk : k < 3) (hlt : zh g s < 6) (h0 : stC g s k = nI 0) : IV (pbG g s k) ad := by
  obtain ⟨O, ⟨f, H⟩, h1, h2⟩ := I
  rcases re_st O H (show s < 2 ^ 32 by omega) (show k < 2 ^ 32 by omega) with ⟨q, -⟩ | ⟨q, -⟩ | ⟨q, -⟩ | ⟨-, -, -, -, O2, H2, -⟩
  · exact absurd (h0.symm.trans q) n_dead.1
  · exact absurd (h0.symm.trans q) n_dead.2.1
  · exact absurd (h0.symm.trans q) n_dead.2.2
  · refine ⟨O2, ⟨_, H2⟩, ?_, h2⟩
    have t : tot (pbG g s k) = g 0 0 + nI 100 * (upd (g 1) k (g 1 k - nI 1) 0 + upd (g 1) k (g 1 k - nI 1) 1 + upd (g 1) k (g 1 k - nI 1) 2) + vAll (pbG g s k) 8 + g 0 2 + vSum (g 5) 0 8 := rfl
    have e7 : pbG g s k 7 = upd (g 7) (s * 6 + zh g s) (nI 100) := rfl
    have e2 : pbG g s k 2 = upd (g 2) s (nI (zh g s + 1)) := rfl
    have ez : zh (pbG g s k) s = zh g s + 1 := by
      show (pbG g s k 2 s).toNatClampNeg = _
      rw [e2, pk_us, nI_clamp (by omega)]
    have ev : vAll (pbG g s k) 8 = vAll g 8 + nI 100 := (vA_pt (s := s) (by
      rw [ez, e7]
      have e3 : vSum (upd (g 7) (s * 6 + zh g s) (nI 100)) (s * 6) (zh g s + 1) = vSum (upd (g 7) (s * 6 + zh g s) (nI 100)) (s * 6) (zh g s) + upd (g 7) (s * 6 + zh g s) (nI 100) (s * 6 + zh g s) := rfl
      rw [e3, pk_us, vs_cg (G := g 7) _ (fun t ht => pk_un (by omega))]) 8 (fun i hi q => by
      have ez2 : zh (pbG g s k) i = zh g i := by
        show (pbG g s k 2 i).toNatClampNeg = _
        rw [e2, pk_un q]
        rfl
      have hz := (O.1 i hi).2
      rw [ez2, e7]
      exact vs_cg _ (fun t ht => pk_un (by omega)))).1 hs
    rw [t, ev, ← h1]
    unfold tot
    have e1 : nI 100 * nI 1 = nI 100 := by decide +kernel
    generalize vAll g 8 = A
    generalize vSum (g 5) 0 8 = B
    generalize nI 100 = C at e1 ⊢
    generalize nI 1 = D at e1 ⊢
    rcases (show k = 0 ∨ k = 1 ∨ k = 2 by omega) with rfl | rfl | rfl
    · rw [pk_us, pk_un (by decide), pk_un (by decide)]
      grind
    · rw [pk_us, pk_un (by decide), pk_un (by decide)]
      grind
    · rw [pk_us, pk_un (by decide), pk_un (by decide)]
      grind
theorem IV_sw {g : Nat → Nat → Int32} {ad : Int32} (I : IV g ad) {s z : Nat} (hs : s < 8) (hz : z < 2) : IV (va_up g 3 (upd (g 3) s (nI z))) ad := by
  obtain ⟨O, ⟨f, H⟩, h1, h2⟩ := I
  obtain ⟨O2, H2⟩ := re_sw O H hs hz
  refine ⟨O2, ⟨_, H2⟩, ?_, h2⟩
  have t : tot (va_up g 3 (upd (g 3) s (nI z))) = g 0 0 + nI 100 * (g 1 0 + g 1 1 + g 1 2) + vAll (va_up g 3 (upd (g 3) s (nI z))) 8 + g 0 2 + vSum (g 5) 0 8 := rfl
  rw [t, vA_cg (g := g) (g' := va_up g 3 (upd (g 3) s (nI z))) 8 (fun s hs => rfl)]
  exact h1
theorem IV_at {g : Nat → Nat → Int32} {ad : Int32} (I : IV g ad) {v : Nat} (hv : v < 2 ^ 32) (h0 : toC g (nI v) = nI 0) : IV (taG g (nI v)) ad := by
  obtain ⟨O, ⟨f, H⟩, h1, h2⟩ := I
  rcases re_at O H hv with ⟨q, -⟩ | ⟨q, -⟩ | ⟨-, -, -, O2, H2, -⟩
  · exact absurd (h0.symm.trans q) n_dead.2.1
  · exact absurd (h0.symm.trans q) n_dead.2.2
  · refine ⟨O2, ⟨_, H2⟩, ?_, h2⟩
    have t : tot (taG g (nI v)) = g 0 0 + nI 100 * (g 1 0 + g 1 1 + g 1 2) + vAll (taG g (nI v)) 8 + g 0 2 + vSum (g 5) 0 8 := rfl
    rw [t, vA_cg (g := g) (g' := taG g (nI v)) 8 (fun s hs => rfl)]
    exact h1
theorem IV_bt {g : Nat → Nat → Int32} {ad : Int32} (I : IV g ad) {a b c : Int32} (h0 : baC g a b c = nI 0) : IV (baG g a b c) ad := by
  obtain ⟨O, ⟨f, H⟩, h1, h2⟩ := I
  rcases re_bt O H a b c with ⟨q, -⟩ | ⟨q, -⟩ | ⟨-, -, -, O2, H2, -⟩
  · exact absurd (h0.symm.trans q) n_dead.2.1
  · exact absurd (h0.symm.trans q) n_dead.2.2
  · refine ⟨O2, ⟨_, H2⟩, ?_, h2⟩
    have t : tot (baG g a b c) = g 0 0 + nI 100 * (g 1 0 + g 1 1 + g 1 2) + vAll (baG g a b c) 8 + g 0 2 + vSum (g 5) 0 8 := rfl
    rw [t, vA_cg (g := g) (g' := baG g a b c) 8 (fun s hs => rfl)]
    exact h1
theorem IV_rc {g : Nat → Nat → Int32} {ad : Int32} (I : IV g ad) : IV (obG g) ad := by
  obtain ⟨O, ⟨f, H⟩, h1, h2⟩ := I
  obtain ⟨-, O2, H2⟩ := re_rc O H
  have t : tot (obG g) = (g 0 0 + obU g) + nI 100 * (g 1 0 + g 1 1 + g 1 2) + vAll (obG g) 8 + (g 0 2 - obU g) + vSum (g 5) 0 8 := rfl
  refine ⟨O2, ⟨_, H2⟩, ?_, ?_⟩
  · rw [t, vA_cg (g := g) (g' := obG g) 8 (fun s hs => rfl), ← h1]
    unfold tot
    generalize vAll g 8 = A
    generalize vSum (g 5) 0 8 = B
    generalize obU g = C
    grind
  · show vSum (g 4) 0 8 = (g 0 2 - obU g) + (g 0 3 + obU g)
    rw [h2]
    generalize obU g = C
    grind
