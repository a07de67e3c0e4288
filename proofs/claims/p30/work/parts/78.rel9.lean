def okK (g : Nat → Nat → Int32) : Prop := okH g ∧ (∀ s, s < 8 → ∀ t, t < zh g s → (∃ a, a < 3 ∧ g 6 (s * 6 + t) = nI a) ∧ ∃ a, 1 ≤ a ∧ a ≤ 100 ∧ g 7 (s * 6 + t) = nI a) ∧ ∀ s, s < 8 → g 3 s = nI 0 ∨ g 3 s = nI 1
def stR (g : Nat → Nat → Int32) (f : Nat → Int32) : Prop := ∀ s, s < 8 → siR g f s
theorem okK_of {g : Nat → Nat → Int32} (O : okS g) : okK g := ⟨O.1, O.2.2.2.2.2.2.2.1, O.2.2.2.2.2.2.2.2⟩
theorem stR_of {g : Nat → Nat → Int32} {f : Nat → Int32} (H : reS g f) : stR g f := fun s hs => by
  obtain ⟨b1, b2, b3, b4, b5⟩ := H.2.2.2.2.2.2.2.2.2.2.1 s hs
  exact ⟨b1, b2, b3, b5⟩
theorem st_zh {g : Nat → Nat → Int32} {f : Nat → Int32} (R : stR g f) {s : Nat} (hs : s < 8) : zhm f s = zh g s := by
  unfold zhm zh
  rw [(R s hs).1]
theorem st_sl {g : Nat → Nat → Int32} {f : Nat → Int32} (R : stR g f) (x : Int32) {t : Nat} (ht : t < 2 ^ 31) : (if zhA g x ≤ nI t then nI 1 else nI 0) = (if slB f x t = 0 then nI 0 else nI 1) := by
  unfold slB
  by_cases q : isS x = 0
  · rw [if_pos q, zhA_o q, if_pos (nI_0le t ht)]
    decide +kernel
  · rw [if_neg q]
    obtain ⟨j, hj, rfl⟩ := isS_nat q
    rw [zhA_n hj, nI_clamp (by omega), (R j hj).1]
    by_cases c : nI t < g 2 j
    · rw [if_pos c, if_neg (not_le32.mpr c)]
      decide +kernel
    · rw [if_neg c, if_pos (not_lt32.mp c)]
      decide +kernel
theorem st_fc {g : Nat → Nat → Int32} {f : Nat → Int32} {a : Nat} (ha : a < 12) (e8 : f 8 = nI a) (K : okK g) (R : stR g f) {s t : Nat} (hs : s < 8) (ht : t < 2 ^ 31) : fcs g s t (nI a) = fcM f s t := by
  obtain ⟨b1, b2, -⟩ := R s hs
  have hw := K.2.2 s hs
  have key : fcS g s t (nI a) = (if slS f s t = 0 then nI 0 else nI 1) := by
    unfold fcS slS
    rw [e8, b2]
    have hd : ∀ a, a < 12 → (nI a / nI 4 = nI 1 ↔ 4 ≤ a ∧ a < 8) ∧ (nI a / nI 4 = 0 ↔ a < 4) := by decide +kernel
    obtain ⟨d1, d2⟩ := hd a ha
    by_cases c1 : a < 4
    · rw [if_neg (show ¬ nI 4 ≤ nI a by rw [nI_leI (by omega) (by omega)]; omega), if_neg (show ¬ nI a / nI 4 = nI 1 from fun q => by have := d1.mp q; omega), if_pos (d2.mpr c1), nI_add]
      exact st_sl R _ ht
    · rw [if_pos (show nI 4 ≤ nI a by rw [nI_leI (by omega) (by omega)]; omega)]
      by_cases c2 : a < 8
      · rw [if_neg (show ¬ nI 8 ≤ nI a by rw [nI_leI (by omega) (by omega)]; omega), if_pos (d1.mpr ⟨by omega, c2⟩)]
        rcases hw with w0 | w1
        · rw [w0]; decide +kernel
        · rw [w1]; decide +kernel
      · rw [if_pos (show nI 8 ≤ nI a by rw [nI_leI (by omega) (by omega)]; omega), if_neg (show ¬ nI a / nI 4 = nI 1 from fun q => by have := d1.mp q; omega), if_neg (show ¬ nI a / nI 4 = 0 from fun q => by have := d2.mp q; omega)]
        exact st_sl R _ ht
  unfold fcs fcM
  rw [key, b1]
/-- one block's loss -/
theorem fc_n (f : Nat → Int32) (s t : Nat) : ∃ b, b ≤ 2 ∧ fcM f s t = nI b := by
  unfold fcM
  by_cases c1 : slS f s t = 0 <;> by_cases c2 : nI t = f (12 + s) - nI 1
  · rw [if_pos c1, if_pos c2]; exact ⟨1, by omega, by decide +kernel⟩
  · rw [if_pos c1, if_neg c2]; exact ⟨0, by omega, by decide +kernel⟩
  · rw [if_neg c1, if_pos c2]; exact ⟨2, by omega, by decide +kernel⟩
  · rw [if_neg c1, if_neg c2]; exact ⟨1, by omega, by decide +kernel⟩
theorem rt_n (k : Int32) : ∃ b, b ≤ 6 ∧ rt k = nI b := by
  unfold rt
  by_cases c1 : k = 0
  · rw [if_pos c1]; exact ⟨6, by omega, rfl⟩
  · rw [if_neg c1]
    by_cases c2 : k = 1
    · rw [if_pos c2]; exact ⟨4, by omega, rfl⟩
    · rw [if_neg c2]; exact ⟨2, by omega, rfl⟩
theorem ps_in {g : Nat → Nat → Int32} {f : Nat → Int32} {a : Nat} (ha : a < 12) (e8 : f 8 = nI a) (K : okK g) (R : stR g f) {s t : Nat} (hs : s < 8) (ht : t < zh g s) : psV f (6 * s + t) = lsV g (nI a) s t ∧ ∃ x y, x ≤ y ∧ y ≤ 100 ∧ lsV g (nI a) s t = nI x ∧ g 7 (s * 6 + t) = nI y := by
  have hz := K.1 s hs
  obtain ⟨b1, b2, b3, b5⟩ := R s hs
  obtain ⟨c1, c2⟩ := b5 t ht
  obtain ⟨-, y, y1, y2, ey⟩ := K.2.1 s hs t ht
  have ef := st_fc ha e8 K R hs (show t < 2 ^ 31 by omega)
  obtain ⟨b, hb, eb⟩ := fc_n f s t
  obtain ⟨r, hr, er⟩ := rt_n (g 6 (s * 6 + t))
  have hrb : r * b ≤ 12 := Nat.le_trans (Nat.mul_le_mul hr hb) (by omega)
  unfold psV lsV
  rw [ef, show (6 * s + t) / 6 = s by omega, show (6 * s + t) % 6 = t by omega, b1, hz.1, if_neg (show ¬ nI (zh g s) ≤ nI t from fun q => by have := (nI_leI (by omega) (by omega)).mp q; omega), show 44 + (6 * s + t) = 44 + 6 * s + t by omega, show 92 + (6 * s + t) = 92 + 6 * s + t by omega, c1, c2, ey, eb, er, pk_mul]
  generalize r * b = p at hrb
  by_cases c : p ≤ y
  · rw [if_pos ((nI_leI (by omega) (by omega)).mpr c), if_neg (fun q => by have := (nI_ltI (by omega) (by omega)).mp q; omega)]
    exact ⟨rfl, p, y, c, y2, rfl, rfl⟩
  · rw [if_neg (fun q => c ((nI_leI (by omega) (by omega)).mp q)), if_pos ((nI_ltI (by omega) (by omega)).mpr (by omega))]
    exact ⟨rfl, y, y, Nat.le_refl _, y2, rfl, rfl⟩
theorem ps_out {g : Nat → Nat → Int32} {f : Nat → Int32} (K : okK g) (R : stR g f) {s t : Nat} (hs : s < 8) (ht : zh g s ≤ t) (h6 : t < 6) : psV f (6 * s + t) = nI 0 := by
  have hz := K.1 s hs
  unfold psV
  rw [show (6 * s + t) / 6 = s by omega, show (6 * s + t) % 6 = t by omega, (R s hs).1, hz.1, if_pos ((nI_leI (by omega) (by omega)).mpr ht)]
/-- the model's losses, one after another -/
theorem psV_cg {f f' : Nat → Int32} {c : Nat} (hc : c < 48) (h : ∀ j, j < 36 ∨ (44 ≤ j ∧ j < 92) ∨ j = 92 + c → f' j = f j) : psV f' c = psV f c := by
  have hf : fcM f' (c / 6) (c % 6) = fcM f (c / 6) (c % 6) := by
    unfold fcM slS slB
    rw [h 8 (by omega), h (12 + c / 6) (by omega), h (20 + c / 6) (by omega)]
    have hx : ∀ x : Int32, (if isS x = 0 then nI 1 else if nI (c % 6) < f' (12 + x.toNatClampNeg) then nI 0 else nI 1) = (if isS x = 0 then nI 1 else if nI (c % 6) < f (12 + x.toNatClampNeg) then nI 0 else nI 1) := fun x => by
      by_cases q : isS x = 0
      · rw [if_pos q, if_pos q]
      · rw [if_neg q, if_neg q]
        obtain ⟨j, hj, rfl⟩ := isS_nat q
        rw [nI_clamp (by omega), h (12 + j) (by omega)]
    rw [hx, hx]
  unfold psV
  rw [hf, h (12 + c / 6) (by omega), h (44 + c) (by omega), h (92 + c) (Or.inr (Or.inr rfl))]
theorem ps_F (f : Nat → Int32) : ∀ c, c ≤ 48 → (∀ j, j < 36 ∨ (44 ≤ j ∧ j < 92) ∨ 92 + c ≤ j → psF f c j = f j) ∧ (∀ i, i < c → psF f c (92 + i) = f (92 + i) - psV f i) ∧ (∀ s, s < 8 → psF f c (36 + s) = f (36 + s) + vSum (psV f) (6 * s) (min 6 (c - 6 * s))) ∧ psA f c = vSum (psV f) 0 c
  | 0, _ => ⟨fun j _ => rfl, fun i hi => absurd hi (Nat.not_lt_zero _), fun s _ => by
      rw [show min 6 (0 - 6 * s) = 0 by omega]
      exact (Int32.add_zero _).symm, rfl⟩
  | c + 1, hc => by
    obtain ⟨i1, i2, i3, i4⟩ := ps_F f c (by omega)
    have ev : psV (psF f c) c = psV f c := psV_cg (by omega) (fun j hj => i1 j (by omega))
    have e1 : psF f (c + 1) = upd (upd (psF f c) (92 + c) (psF f c (92 + c) - psV (psF f c) c)) (36 + c / 6) ((upd (psF f c) (92 + c) (psF f c (92 + c) - psV (psF f c) c)) (36 + c / 6) + psV (psF f c) c) := rfl
    have e2 : psA f (c + 1) = psA f c + psV (psF f c) c := rfl
    rw [e1, e2, ev, pk_un (show 36 + c / 6 ≠ 92 + c by omega)]
    refine ⟨fun j hj => ?_, fun i hi => ?_, fun s hs => ?_, ?_⟩
    · rw [pk_un (by omega), pk_un (by omega)]; exact i1 j (by omega)
    · rw [pk_un (by omega)]
      by_cases q : i = c
      · subst q
        rw [pk_us, i1 _ (by omega)]
      · rw [pk_un (by omega)]; exact i2 i (by omega)
    · by_cases q : s = c / 6
      · subst q
        rw [pk_us, i3 _ hs, Int32.add_assoc, show min 6 (c + 1 - 6 * (c / 6)) = min 6 (c - 6 * (c / 6)) + 1 by omega]
        show _ = f (36 + c / 6) + (vSum (psV f) (6 * (c / 6)) (min 6 (c - 6 * (c / 6))) + psV f (6 * (c / 6) + min 6 (c - 6 * (c / 6))))
        rw [show 6 * (c / 6) + min 6 (c - 6 * (c / 6)) = c by omega]
      · rw [pk_un (by omega), pk_un (by omega), i3 s hs, show min 6 (c + 1 - 6 * s) = min 6 (c - 6 * s) by omega]
    · rw [i4]
      show _ = vSum (psV f) 0 c + psV f (0 + c)
      rw [Nat.zero_add]
theorem vs_app (F : Nat → Int32) (b m : Nat) : ∀ n, vSum F b (m + n) = vSum F b m + vSum F (b + m) n
  | 0 => (Int32.add_zero _).symm
  | n + 1 => by
    show vSum F b (m + n) + F (b + (m + n)) = vSum F b m + (vSum F (b + m) n + F (b + m + n))
    rw [vs_app F b m n, Int32.add_assoc, Nat.add_assoc]
theorem vs_cut {F L : Nat → Int32} {b : Nat} {n : Nat} (h1 : ∀ t, t < n → F (b + t) = L (b + t)) : ∀ k, (∀ t, n ≤ t → t < n + k → F (b + t) = nI 0) → vSum F b (n + k) = vSum L b n
  | 0, _ => by
    have key : ∀ m, m ≤ n → vSum F b m = vSum L b m := by
      intro m
      induction m with
      | zero => intro _; rfl
      | succ m ih =>
        intro hm
        show vSum F b m + F (b + m) = vSum L b m + L (b + m)
        rw [ih (by omega), h1 m (by omega)]
    exact key n (Nat.le_refl _)
  | k + 1, h2 => by
    show vSum F b (n + k) + F (b + (n + k)) = vSum L b n
    rw [vs_cut h1 k (fun t a b => h2 t a (by omega)), h2 (n + k) (by omega) (by omega)]
    exact Int32.add_zero _
/-- the class's losses -/
theorem mlI_v (g : Nat → Nat → Int32) (hr : Int32) (s : Nat) (L : Nat → Int32) : ∀ n, (∀ t, t < n → mlI g hr s L n (s * 6 + t) = lsV g hr s t) ∧ ∀ j, j < s * 6 ∨ s * 6 + n ≤ j → mlI g hr s L n j = L j
  | 0 => ⟨fun t ht => absurd ht (Nat.not_lt_zero _), fun j _ => rfl⟩
  | n + 1 => by
    obtain ⟨i1, i2⟩ := mlI_v g hr s L n
    have e : mlI g hr s L (n + 1) = upd (mlI g hr s L n) (s * 6 + n) (lsV g hr s n) := rfl
    rw [e]
    refine ⟨fun t ht => ?_, fun j hj => ?_⟩
    · by_cases q : t = n
      · subst q; exact pk_us
      · rw [pk_un (by omega)]; exact i1 t (by omega)
    · rw [pk_un (by omega)]; exact i2 j (by omega)
theorem mlO_v {g : Nat → Nat → Int32} (hr : Int32) (hg : okH g) : ∀ S, S ≤ 8 → ∀ s, s < S → ∀ t, t < zh g s → mlO g hr S (s * 6 + t) = lsV g hr s t
  | 0, _, s, hs, _, _ => absurd hs (Nat.not_lt_zero _)
  | S + 1, h8, s, hs, t, ht => by
    have h6 := (hg s (by omega)).2
    have e : mlO g hr (S + 1) = mlI g hr S (mlO g hr S) (zh g S) := rfl
    rw [e]
    obtain ⟨i1, i2⟩ := mlI_v g hr S (mlO g hr S) (zh g S)
    by_cases q : s = S
    · subst q; exact i1 t ht
    · rw [i2 _ (by omega)]; exact mlO_v hr hg S (by omega) s (by omega) t ht
theorem tlV_v (V L : Nat → Int32) (b : Nat) : ∀ n, (∀ t, t < n → tlV V L b n (b + t) = V (b + t) - L (b + t)) ∧ ∀ j, j < b ∨ b + n ≤ j → tlV V L b n j = V j
  | 0 => ⟨fun t ht => absurd ht (Nat.not_lt_zero _), fun j _ => rfl⟩
  | n + 1 => by
    obtain ⟨i1, i2⟩ := tlV_v V L b n
    have e : tlV V L b (n + 1) = upd (tlV V L b n) (b + n) (tlV V L b n (b + n) - L (b + n)) := rfl
    rw [e]
    refine ⟨fun t ht => ?_, fun j hj => ?_⟩
    · by_cases q : t = n
      · subst q; rw [pk_us, i2 _ (by omega)]
      · rw [pk_un (by omega)]; exact i1 t (by omega)
    · rw [pk_un (by omega)]; exact i2 j (by omega)

