theorem mb_get : ∀ a, a < 256 → ∀ s, s < 8 → stB (nI a) (nI s) = if a.testBit s then nI 1 else nI 0 := by decide +kernel
theorem mb_or : ∀ a, a < 256 → ∀ s, s < 8 → (nI a ||| (nI 1 <<< (nI s &&& 31))) = nI (a ||| 2 ^ s) := by decide +kernel
theorem mb_not : ∀ a, a < 256 → ∀ s, s < 8 → (nI a &&& ((nI 1 <<< (nI s &&& 31)) ^^^ (-1))) = nI (a &&& (255 - 2 ^ s)) := by decide +kernel
theorem mb_255 : ∀ w, w < 8 → ∀ s, s < 8 → (255 - 2 ^ w).testBit s = (s != w) := by decide +kernel
theorem mb_2 : ∀ w, w < 8 → ∀ s, s < 8 → (2 ^ w).testBit s = (s == w) := by decide +kernel
/-- the mask x says who stands -/
def mbR (sd : Nat → Int32) (x : Int32) : Prop := ∃ a, a < 256 ∧ x = nI a ∧ ∀ s, s < 8 → (¬ sd s = 0 ↔ a.testBit s = true)
theorem mb_1 {sd : Nat → Int32} {x : Int32} (h : mbR sd x) {s : Nat} (hs : s < 8) : (stB x (nI s) = nI 1 ↔ ¬ sd s = 0) ∧ (stB x (nI s) = 0 ↔ sd s = 0) := by
  obtain ⟨a, ha, rfl, h1⟩ := h
  have h2 := h1 s hs
  rw [mb_get a ha s hs]
  by_cases q : a.testBit s = true
  · rw [if_pos q]
    have q2 := h2.mpr q
    exact ⟨⟨fun _ => q2, fun _ => rfl⟩, ⟨fun e => absurd e (by decide +kernel), fun e => absurd e q2⟩⟩
  · rw [if_neg q]
    have q2 : sd s = 0 := Classical.byContradiction fun q3 => q (h2.mp q3)
    exact ⟨⟨fun e => absurd e (by decide +kernel), fun e => absurd q2 e⟩, ⟨fun _ => q2, fun _ => rfl⟩⟩
theorem mb_drop {sd : Nat → Int32} {x : Int32} (h : mbR sd x) {w : Nat} (hw : w < 8) : mbR (upd sd w (nI 0)) (x &&& ((nI 1 <<< (nI w &&& 31)) ^^^ (-1))) := by
  obtain ⟨a, ha, rfl, h1⟩ := h
  rw [mb_not a ha w hw]
  refine ⟨_, Nat.lt_of_le_of_lt Nat.and_le_left ha, rfl, fun s hs => ?_⟩
  rw [Nat.testBit_and, mb_255 w hw s hs]
  by_cases q : s = w
  · rw [q, pk_us]
    simp
    rfl
  · rw [pk_un q, h1 s hs]
    simp [q]
theorem or_lt {a b : Nat} (ha : a < 256) (hb : b < 256) : a ||| b < 256 := Nat.or_lt_two_pow (n := 8) ha hb
theorem cx_v (f : Nat → Int32) : ∀ S, S ≤ 8 → ∃ a, a < 256 ∧ cxM f S = nI a ∧ ∀ s, s < 8 → (a.testBit s = true ↔ s < S ∧ ¬ f (12 + s) ≤ 0)
  | 0, _ => ⟨0, by omega, rfl, fun s hs => by simp⟩
  | S + 1, h => by
    obtain ⟨a, ha, e, h1⟩ := cx_v f S (by omega)
    have e2 : cxM f (S + 1) = cxM f S ||| (if f (12 + S) ≤ 0 then nI 0 else nI 1 <<< (nI S &&& 31)) := rfl
    rw [e2, e]
    by_cases c : f (12 + S) ≤ 0
    · rw [if_pos c]
      refine ⟨a, ha, ?_, fun s hs => ?_⟩
      · show nI a ||| 0 = nI a
        exact Int32.or_zero
      · rw [h1 s hs]
        refine ⟨fun q => ⟨by omega, q.2⟩, fun q => ⟨?_, q.2⟩⟩
        rcases Nat.lt_or_ge s S with q2 | q2
        · exact q2
        · have : s = S := by omega
          exact absurd (this ▸ c) q.2
    · rw [if_neg c, mb_or a ha S (by omega)]
      refine ⟨_, or_lt ha (Nat.lt_of_lt_of_le (Nat.pow_lt_pow_right (by omega) (show S < 8 by omega)) (by decide)), rfl, fun s hs => ?_⟩
      rw [Nat.testBit_or, mb_2 S (by omega) s hs, Bool.or_eq_true, h1 s hs]
      constructor
      · intro q
        rcases q with q | q
        · exact ⟨by omega, q.2⟩
        · have : s = S := by simpa using q
          exact ⟨by omega, by rw [this]; exact c⟩
      · intro q
        by_cases q2 : s = S
        · exact Or.inr (by simpa using q2)
        · exact Or.inl ⟨by omega, q.2⟩
/-- how many stand, and who stands last -/
def cnS (sd : Nat → Int32) : Nat → Nat
  | 0 => 0
  | s + 1 => cnS sd s + (if sd s = 0 then 0 else 1)
def lsS (sd : Nat → Int32) : Nat → Int32
  | 0 => (-1)
  | s + 1 => if sd s = 0 then lsS sd s else nI s
theorem cnS_le (sd : Nat → Int32) : ∀ S, cnS sd S ≤ S
  | 0 => Nat.le_refl 0
  | S + 1 => by
    have := cnS_le sd S
    show cnS sd S + (if sd S = 0 then 0 else 1) ≤ S + 1
    split <;> omega
theorem cnS_pos {sd : Nat → Int32} {i : Nat} (hi : ¬ sd i = 0) : ∀ S, i < S → 1 ≤ cnS sd S
  | 0, h => absurd h (Nat.not_lt_zero _)
  | S + 1, h => by
    show 1 ≤ cnS sd S + (if sd S = 0 then 0 else 1)
    by_cases q : i = S
    · rw [if_neg (q ▸ hi)]; omega
    · have := cnS_pos hi S (by omega)
      omega
theorem cnS_0 {sd : Nat → Int32} : ∀ S, cnS sd S = 0 → ∀ i, i < S → sd i = 0 := fun S h i hi => Classical.byContradiction fun q => by
  have := cnS_pos q S hi
  omega
theorem lsS_1 {sd : Nat → Int32} {i : Nat} (hi : ¬ sd i = 0) : ∀ S, i < S → cnS sd S = 1 → lsS sd S = nI i
  | 0, h, _ => absurd h (Nat.not_lt_zero _)
  | S + 1, h, h1 => by
    have h2 : cnS sd S + (if sd S = 0 then 0 else 1) = 1 := h1
    show (if sd S = 0 then lsS sd S else nI S) = nI i
    by_cases q : i = S
    · rw [if_neg (q ▸ hi), q]
    · have h3 := cnS_pos hi S (by omega)
      by_cases q2 : sd S = 0
      · rw [if_pos q2] at h2 ⊢
        exact lsS_1 hi S (by omega) (by omega)
      · rw [if_neg q2] at h2
        omega
theorem cnS_drop {sd : Nat → Int32} {w : Nat} (hw : ¬ sd w = 0) : ∀ S, (S ≤ w → cnS (upd sd w (nI 0)) S = cnS sd S) ∧ (w < S → cnS (upd sd w (nI 0)) S + 1 = cnS sd S)
  | 0 => ⟨fun _ => rfl, fun h => absurd h (Nat.not_lt_zero _)⟩
  | S + 1 => by
    obtain ⟨i1, i2⟩ := cnS_drop hw S
    have e1 : cnS (upd sd w (nI 0)) (S + 1) = cnS (upd sd w (nI 0)) S + (if upd sd w (nI 0) S = 0 then 0 else 1) := rfl
    have e2 : cnS sd (S + 1) = cnS sd S + (if sd S = 0 then 0 else 1) := rfl
    rw [e1, e2]
    refine ⟨fun h => ?_, fun h => ?_⟩
    · rw [i1 (by omega), pk_un (show S ≠ w by omega)]
    · by_cases q : S = w
      · subst q
        rw [pk_us, if_pos (show nI 0 = 0 from rfl), if_neg hw, i1 (Nat.le_refl _)]
      · rw [pk_un q, ← i2 (by omega)]
        omega
/-- sums of votes -/
def smS (v : Nat → Nat) : Nat → Nat
  | 0 => 0
  | s + 1 => smS v s + v s
theorem smS_cg {v v' : Nat → Nat} : ∀ S, (∀ i, i < S → v i = v' i) → smS v S = smS v' S
  | 0, _ => rfl
  | S + 1, h => by
    show smS v S + v S = smS v' S + v' S
    rw [smS_cg S (fun i hi => h i (by omega)), h S (Nat.lt_succ_self S)]
theorem smS_inc {v : Nat → Nat} {j : Nat} : ∀ S, j < S → smS (fun i => if i = j then v i + 1 else v i) S = smS v S + 1
  | 0, h => absurd h (Nat.not_lt_zero _)
  | S + 1, h => by
    show smS (fun i => if i = j then v i + 1 else v i) S + (if S = j then v S + 1 else v S) = smS v S + v S + 1
    by_cases q : S = j
    · rw [if_pos q, smS_cg (v' := v) S (fun i hi => if_neg (by omega))]; omega
    · rw [if_neg q, smS_inc S (by omega)]; omega
theorem smS_1 {v : Nat → Nat} {i : Nat} : ∀ S, i < S → v i ≤ smS v S
  | 0, h => absurd h (Nat.not_lt_zero _)
  | S + 1, h => by
    show v i ≤ smS v S + v S
    by_cases q : i = S
    · rw [q]; omega
    · have := smS_1 (v := v) S (show i < S by omega); omega
theorem smS_2 {v : Nat → Nat} {i j : Nat} (hij : i < j) : ∀ S, j < S → v i + v j ≤ smS v S
  | 0, h => absurd h (Nat.not_lt_zero _)
  | S + 1, h => by
    show v i + v j ≤ smS v S + v S
    by_cases q : j = S
    · have := smS_1 (v := v) S (show i < S by omega); rw [q]; omega
    · have := smS_2 (v := v) hij S (by omega); omega
/-- a round's counting: the class's and the model's -/
def vtR (sd V Vm : Nat → Int32) (r n : Nat) (N Nm : Int32) : Prop := (∀ j, j < 8 * (r + 1) → V j = Vm j) ∧ N = nI n ∧ Nm = nI n ∧ ∃ v : Nat → Nat, (∀ i, i < 8 → ¬ sd i = 0 → V (r * 8 + i) = nI (v i)) ∧ smS v 8 = n
theorem vt_v (V sd : Nat → Int32) (r : Nat) : ∀ S, (∀ i, i < S → vtI V sd r S (r * 8 + i) = if sd i = 0 then (-1) else nI 0) ∧ ∀ j, j < r * 8 → vtI V sd r S j = V j
  | 0 => ⟨fun i h => absurd h (Nat.not_lt_zero _), fun j _ => rfl⟩
  | S + 1 => by
    obtain ⟨i1, i2⟩ := vt_v V sd r S
    have e : vtI V sd r (S + 1) = upd (vtI V sd r S) (r * 8 + S) (if sd S = 0 then (-1) else nI 0) := rfl
    rw [e]
    refine ⟨fun i hi => ?_, fun j hj => by rw [pk_un (by omega)]; exact i2 j hj⟩
    by_cases q : i = S
    · rw [q, pk_us]
    · rw [pk_un (by omega)]; exact i1 i (by omega)
theorem cv_v (V : Nat → Int32) (r : Nat) (x : Int32) : ∀ S, (∀ i, i < S → cvI V r x S (8 * r + i) = if stB x (nI i) = nI 1 then nI 0 else (-1)) ∧ ∀ j, j < 8 * r → cvI V r x S j = V j
  | 0 => ⟨fun i h => absurd h (Nat.not_lt_zero _), fun j _ => rfl⟩
  | S + 1 => by
    obtain ⟨i1, i2⟩ := cv_v V r x S
    have e : cvI V r x (S + 1) = upd (cvI V r x S) (8 * r + S) (if stB x (nI S) = nI 1 then nI 0 else (-1)) := rfl
    rw [e]
    refine ⟨fun i hi => ?_, fun j hj => by rw [pk_un (by omega)]; exact i2 j hj⟩
    by_cases q : i = S
    · rw [q, pk_us]
    · rw [pk_un (by omega)]; exact i1 i (by omega)
/-- a ballot's choice: the first that stands -/
theorem ch_fa {ch sd f : Nat → Int32} {x : Int32} {b : Nat} (hm : mbR sd x) (he : ∀ k, k < 3 → f (155 + 3 * b + k) = ch (b * 3 + k)) (hc : ∀ k, k < 3 → ¬ ch (b * 3 + k) = (-1) → ∃ j, j < 8 ∧ ch (b * 3 + k) = nI j) : (chR ch sd b 3 = (-1) ∧ ¬ faC f x b < 3) ∨ (faC f x b < 3 ∧ ∃ j, j < 8 ∧ ¬ sd j = 0 ∧ chR ch sd b 3 = nI j ∧ f (155 + 3 * b + faC f x b) = nI j) := by
  -- one choice
  have one : ∀ k, k < 3 → ((isS (ch (b * 3 + k)) = 0 ∨ (¬ isS (ch (b * 3 + k)) = 0 ∧ sd (ch (b * 3 + k)).toNatClampNeg = 0)) ∧ (f (155 + 3 * b + k) = (-1) ∨ (¬ f (155 + 3 * b + k) = (-1) ∧ stB x (f (155 + 3 * b + k)) = 0))) ∨ (∃ j, j < 8 ∧ ¬ sd j = 0 ∧ ch (b * 3 + k) = nI j ∧ ¬ isS (ch (b * 3 + k)) = 0 ∧ ¬ sd (ch (b * 3 + k)).toNatClampNeg = 0 ∧ ¬ f (155 + 3 * b + k) = (-1) ∧ ¬ stB x (f (155 + 3 * b + k)) = 0) := fun k hk => by
    rw [he k hk]
    by_cases q : ch (b * 3 + k) = (-1)
    · rw [q]; exact Or.inl ⟨Or.inl (by decide +kernel), Or.inl rfl⟩
    · obtain ⟨j, hj, ej⟩ := hc k hk q
      have h8 : ∀ j, j < 8 → ¬ isS (nI j) = 0 := by decide +kernel
      have hcl : (nI j).toNatClampNeg = j := nI_clamp (by omega)
      rw [ej] at q ⊢
      rw [hcl]
      by_cases q2 : sd j = 0
      · exact Or.inl ⟨Or.inr ⟨h8 j hj, q2⟩, Or.inr ⟨q, (mb_1 hm hj).2.mpr q2⟩⟩
      · exact Or.inr ⟨j, hj, q2, rfl, h8 j hj, q2, q, fun q3 => q2 ((mb_1 hm hj).2.mp q3)⟩
  have c1 : ∀ k, chR ch sd b (k + 1) = if isS (ch (b * 3 + (2 - k))) = 0 then chR ch sd b k else if sd (ch (b * 3 + (2 - k))).toNatClampNeg = 0 then chR ch sd b k else ch (b * 3 + (2 - k)) := fun k => rfl
  have f1 : ∀ k a, faR f x b (k + 1) a = if f (155 + 3 * b + a) = (-1) then faR f x b k (a + 1) else if stB x (f (155 + 3 * b + a)) = 0 then faR f x b k (a + 1) else a := fun k a => rfl
  have skip : ∀ k, k < 3 → ((isS (ch (b * 3 + k)) = 0 ∨ (¬ isS (ch (b * 3 + k)) = 0 ∧ sd (ch (b * 3 + k)).toNatClampNeg = 0)) ∧ (f (155 + 3 * b + k) = (-1) ∨ (¬ f (155 + 3 * b + k) = (-1) ∧ stB x (f (155 + 3 * b + k)) = 0))) → chR ch sd b (2 - k + 1) = chR ch sd b (2 - k) ∧ faR f x b (2 - k + 1) k = faR f x b (2 - k) (k + 1) := fun k hk h => by
    rw [c1, f1, show 2 - (2 - k) = k by omega]
    refine ⟨?_, ?_⟩
    · rcases h.1 with q | ⟨q1, q2⟩
      · rw [if_pos q]
      · rw [if_neg q1, if_pos q2]
    · rcases h.2 with q | ⟨q1, q2⟩
      · rw [if_pos q]
      · rw [if_neg q1, if_pos q2]
  have take : ∀ k, k < 3 → (∃ j, j < 8 ∧ ¬ sd j = 0 ∧ ch (b * 3 + k) = nI j ∧ ¬ isS (ch (b * 3 + k)) = 0 ∧ ¬ sd (ch (b * 3 + k)).toNatClampNeg = 0 ∧ ¬ f (155 + 3 * b + k) = (-1) ∧ ¬ stB x (f (155 + 3 * b + k)) = 0) → faR f x b (2 - k + 1) k = k ∧ ∃ j, j < 8 ∧ ¬ sd j = 0 ∧ chR ch sd b (2 - k + 1) = nI j ∧ f (155 + 3 * b + k) = nI j := fun k hk h => by
    obtain ⟨j, hj, h1, h2, h3, h4, h5, h6⟩ := h
    rw [c1, f1, show 2 - (2 - k) = k by omega, if_neg h3, if_neg h4, if_neg h5, if_neg h6]
    exact ⟨rfl, j, hj, h1, h2, by rw [he k hk]; exact h2⟩
  unfold faC
  rcases one 0 (by omega) with q0 | q0
  · obtain ⟨s1, s2⟩ := skip 0 (by omega) q0
    have s1' : chR ch sd b 3 = chR ch sd b 2 := s1
    have s2' : faR f x b 3 0 = faR f x b 2 1 := s2
    rw [s1', s2']
    rcases one 1 (by omega) with q1 | q1
    · obtain ⟨u1, u2⟩ := skip 1 (by omega) q1
      have u1' : chR ch sd b 2 = chR ch sd b 1 := u1
      have u2' : faR f x b 2 1 = faR f x b 1 2 := u2
      rw [u1', u2']
      rcases one 2 (by omega) with q2 | q2
      · obtain ⟨w1, w2⟩ := skip 2 (by omega) q2
        have w1' : chR ch sd b 1 = (-1) := w1
        have w2' : faR f x b 1 2 = 3 := w2
        rw [w1', w2']
        exact Or.inl ⟨rfl, by omega⟩
      · obtain ⟨w1, w2⟩ := take 2 (by omega) q2
        have w1' : faR f x b 1 2 = 2 := w1
        rw [w1']
        exact Or.inr ⟨by omega, w2⟩
    · obtain ⟨w1, w2⟩ := take 1 (by omega) q1
      have w1' : faR f x b 2 1 = 1 := w1
      rw [w1']
      exact Or.inr ⟨by omega, w2⟩
  · obtain ⟨w1, w2⟩ := take 0 (by omega) q0
    have w1' : faR f x b 3 0 = 0 := w1
    rw [w1']
    exact Or.inr ⟨by omega, w2⟩
/-- all ballots -/
theorem cb_cr {V Vm ch sd f : Nat → Int32} {x : Int32} {r B : Nat} (hm : mbR sd x) (hV : ∀ j, j < 8 * r → V j = Vm j) (he : ∀ b, b < B → ∀ k, k < 3 → f (155 + 3 * b + k) = ch (b * 3 + k)) (hc : ∀ b, b < B → ∀ k, k < 3 → ¬ ch (b * 3 + k) = (-1) → ∃ j, j < 8 ∧ ch (b * 3 + k) = nI j) : ∀ b, b ≤ B → ∃ n, n ≤ b ∧ vtR sd (cbI V ch sd r b).1 (crI Vm f r x b).1 r n (cbI V ch sd r b).2 (crI Vm f r x b).2
  | 0, _ => by
    obtain ⟨a1, a2⟩ := vt_v V sd r 8
    obtain ⟨b1, b2⟩ := cv_v Vm r x 8
    refine ⟨0, Nat.le_refl 0, fun j hj => ?_, rfl, rfl, fun _ => 0, fun i hi h => ?_, rfl⟩
    · show vtI V sd r 8 j = cvI Vm r x 8 j
      by_cases q : j < 8 * r
      · rw [a2 j (by omega), b2 j q]; exact hV j q
      · obtain ⟨i, rfl⟩ : ∃ i, j = 8 * r + i := ⟨j - 8 * r, by omega⟩
        rw [b1 i (by omega), show 8 * r + i = r * 8 + i by omega, a1 i (by omega)]
        by_cases q2 : sd i = 0
        · rw [if_pos q2, if_neg (fun q3 => (mb_1 hm (show i < 8 by omega)).1.mp q3 q2)]
        · rw [if_neg q2, if_pos ((mb_1 hm (show i < 8 by omega)).1.mpr q2)]
    · show vtI V sd r 8 (r * 8 + i) = nI 0
      rw [a1 i hi, if_neg h]
  | b + 1, hb => by
    obtain ⟨n, hn, h1, h2, h3, v, h4, h5⟩ := cb_cr hm hV he hc b (by omega)
    have e1 : cbI V ch sd r (b + 1) = if chR ch sd b 3 = (-1) then cbI V ch sd r b else (upd (cbI V ch sd r b).1 (r * 8 + (chR ch sd b 3).toNatClampNeg) ((cbI V ch sd r b).1 (r * 8 + (chR ch sd b 3).toNatClampNeg) + nI 1), (cbI V ch sd r b).2 + nI 1) := rfl
    have e2 : crI Vm f r x (b + 1) = if faC f x b < 3 then (upd (crI Vm f r x b).1 (8 * r + (f (155 + 3 * b + faC f x b)).toNatClampNeg) ((crI Vm f r x b).1 (8 * r + (f (155 + 3 * b + faC f x b)).toNatClampNeg) + nI 1), (crI Vm f r x b).2 + nI 1) else crI Vm f r x b := rfl
    rw [e1, e2]
    generalize cbI V ch sd r b = P at h1 h2 h4 ⊢
    generalize crI Vm f r x b = Pm at h1 h3 ⊢
    rcases ch_fa hm (he b (by omega)) (hc b (by omega)) with ⟨q1, q2⟩ | ⟨q1, j, hj, q2, q3, q4⟩
    · rw [if_pos q1, if_neg q2]
      exact ⟨n, by omega, h1, h2, h3, v, h4, h5⟩
    · rw [if_neg (show ¬ chR ch sd b 3 = (-1) by rw [q3]; exact nI_n1 (by omega)), if_pos q1, q3, q4, nI_clamp (by omega)]
      refine ⟨n + 1, by omega, fun j' hj' => ?_, by rw [h2, nI_add], by rw [h3, nI_add], fun i => if i = j then v i + 1 else v i, fun i hi h => ?_, by rw [smS_inc 8 hj, h5]⟩
      · show upd P.1 (r * 8 + j) (P.1 (r * 8 + j) + nI 1) j' = upd Pm.1 (8 * r + j) (Pm.1 (8 * r + j) + nI 1) j'
        rw [show 8 * r + j = r * 8 + j by omega, h1 (r * 8 + j) (by omega)]
        by_cases q : j' = r * 8 + j
        · rw [q, pk_us, pk_us]
        · rw [pk_un q, pk_un q]; exact h1 j' hj'
      · show upd P.1 (r * 8 + j) (P.1 (r * 8 + j) + nI 1) (r * 8 + i) = nI (if i = j then v i + 1 else v i)
        by_cases q : i = j
        · rw [q, pk_us, h4 j hj q2, if_pos rfl, nI_add]
        · rw [pk_un (by omega), if_neg q]; exact h4 i hi h

