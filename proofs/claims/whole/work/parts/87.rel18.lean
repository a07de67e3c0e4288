/-! the relation, on: words of orders -/
theorem skN_in (B : Nat → Int32) (n : Nat) (a b : Int32) : ∀ k i j, i ≤ j → j < skN B n a b k i → ¬ nwC B n j a b = 0
  | 0, i, j, h1, h2 => by
    have h3 : j < i := h2
    omega
  | k + 1, i, j, h1, h2 => by
    have h3 : j < (if nwC B n i a b = 0 then i else skN B n a b k (i + 1)) := h2
    by_cases q : nwC B n i a b = 0
    · rw [if_pos q] at h3; omega
    · rw [if_neg q] at h3
      by_cases q2 : j = i
      · rw [q2]; exact q
      · exact skN_in B n a b k (i + 1) j (by omega) h3
theorem skN_end (B : Nat → Int32) (n : Nat) (a b : Int32) : ∀ k i, n ≤ i + k → nwC B n (skN B n a b k i) a b = 0
  | 0, i, h => by
    show nwC B n i a b = 0
    unfold nwC
    rw [if_pos (by omega)]; rfl
  | k + 1, i, h => by
    show nwC B n (if nwC B n i a b = 0 then i else skN B n a b k (i + 1)) a b = 0
    by_cases q : nwC B n i a b = 0
    · rw [if_pos q]; exact q
    · rw [if_neg q]; exact skN_end B n a b k (i + 1) (by omega)
theorem skE_end (B : Nat → Int32) (n : Nat) (a b : Int32) (i : Nat) : nwC B n (skE B n a b i) a b = 0 := skN_end B n a b (n - i) i (by omega)
theorem nw_let {B : Nat → Int32} {n j : Nat} (h : ¬ nwC B n j (nI 97) (nI 122) = 0) : ∃ c, 1 ≤ c ∧ c ≤ 26 ∧ B j = nI (96 + c) := by
  unfold nwC at h
  by_cases c1 : n ≤ j
  · rw [if_pos c1] at h; exact absurd rfl h
  rw [if_neg c1] at h
  by_cases c2 : B j < nI 97
  · rw [if_pos c2] at h; exact absurd rfl h
  rw [if_neg c2] at h
  by_cases c3 : nI 122 < B j
  · rw [if_pos c3] at h; exact absurd rfl h
  have c4 : ¬ B j < 0 := fun q => c2 (Int32.lt_trans q (by decide +kernel))
  obtain ⟨x, hx, e⟩ := nI_of c4
  rw [e, nI_ltI hx (by omega)] at c2
  rw [e, nI_ltI (by omega) hx] at c3
  exact ⟨x - 96, by omega, by omega, by rw [e, show 96 + (x - 96) = x by omega]⟩
/-- a word's number, base 27 -/
def hvN (c : Nat → Nat) : Nat → Nat
  | 0 => 0
  | d + 1 => 27 * hvN c d + c d
theorem lt_v {B : Nat → Int32} {s : Nat} {c : Nat → Nat} : ∀ L, L ≤ 5 → (∀ j, j < L → c j ≤ 26 ∧ B (s + j) = nI (96 + c j)) → ltI B s L = nI (hvN c L)
  | 0, _, _ => rfl
  | d + 1, h, hc => by
    have e : ltI B s (d + 1) = if 5 ≤ d then nI 0 else nI 27 * ltI B s d + B (s + d) - nI 96 := rfl
    rw [e, if_neg (by omega), lt_v d (by omega) (fun j hj => hc j (by omega)), (hc d (by omega)).2, pk_mul, nI_add, pk_sub (by omega)]
    show nI _ = nI (27 * hvN c d + c d)
    congr 1
    omega
theorem hv_le {c : Nat → Nat} : ∀ L, L ≤ 5 → (∀ j, j < L → c j ≤ 26) → hvN c L < 27 ^ 5 := fun L h hc => by
  rcases (show L = 0 ∨ L = 1 ∨ L = 2 ∨ L = 3 ∨ L = 4 ∨ L = 5 by omega) with rfl | rfl | rfl | rfl | rfl | rfl
  · show 0 < 27 ^ 5
    decide
  · have := hc 0 (by omega); simp only [hvN]; omega
  · have := hc 0 (by omega); have := hc 1 (by omega); simp only [hvN]; omega
  · have := hc 0 (by omega); have := hc 1 (by omega); have := hc 2 (by omega); simp only [hvN]; omega
  · have := hc 0 (by omega); have := hc 1 (by omega); have := hc 2 (by omega); have := hc 3 (by omega); simp only [hvN]; omega
  · have := hc 0 (by omega); have := hc 1 (by omega); have := hc 2 (by omega); have := hc 3 (by omega); have := hc 4 (by omega); simp only [hvN]; omega
/-- the number K is that of one word alone: of five, four, three letters -/
theorem hv_5 {c : Nat → Nat} {L K a0 a1 a2 a3 a4 : Nat} (hK : K = 27 * (27 * (27 * (27 * a0 + a1) + a2) + a3) + a4) (h0 : 1 ≤ a0 ∧ a0 ≤ 26) (h1 : 1 ≤ a1 ∧ a1 ≤ 26) (h2 : 1 ≤ a2 ∧ a2 ≤ 26) (h3 : 1 ≤ a3 ∧ a3 ≤ 26) (h4 : 1 ≤ a4 ∧ a4 ≤ 26) (hL : L ≤ 5) (hc : ∀ j, j < L → 1 ≤ c j ∧ c j ≤ 26) (h : hvN c L = K) : L = 5 ∧ c 0 = a0 ∧ c 1 = a1 ∧ c 2 = a2 ∧ c 3 = a3 ∧ c 4 = a4 := by
  rcases (show L = 0 ∨ L = 1 ∨ L = 2 ∨ L = 3 ∨ L = 4 ∨ L = 5 by omega) with rfl | rfl | rfl | rfl | rfl | rfl
  · simp only [hvN] at h; omega
  · have := hc 0 (by omega); simp only [hvN] at h; omega
  · have := hc 0 (by omega); have := hc 1 (by omega); simp only [hvN] at h; omega
  · have := hc 0 (by omega); have := hc 1 (by omega); have := hc 2 (by omega); simp only [hvN] at h; omega
  · have := hc 0 (by omega); have := hc 1 (by omega); have := hc 2 (by omega); have := hc 3 (by omega); simp only [hvN] at h; omega
  · have := hc 0 (by omega); have := hc 1 (by omega); have := hc 2 (by omega); have := hc 3 (by omega); have := hc 4 (by omega); simp only [hvN] at h; omega
theorem hv_4 {c : Nat → Nat} {L K a0 a1 a2 a3 : Nat} (hK : K = 27 * (27 * (27 * a0 + a1) + a2) + a3) (h0 : 1 ≤ a0 ∧ a0 ≤ 26) (h1 : 1 ≤ a1 ∧ a1 ≤ 26) (h2 : 1 ≤ a2 ∧ a2 ≤ 26) (h3 : 1 ≤ a3 ∧ a3 ≤ 26) (hL : L ≤ 5) (hc : ∀ j, j < L → 1 ≤ c j ∧ c j ≤ 26) (h : hvN c L = K) : L = 4 ∧ c 0 = a0 ∧ c 1 = a1 ∧ c 2 = a2 ∧ c 3 = a3 := by
  rcases (show L = 0 ∨ L = 1 ∨ L = 2 ∨ L = 3 ∨ L = 4 ∨ L = 5 by omega) with rfl | rfl | rfl | rfl | rfl | rfl
  · simp only [hvN] at h; omega
  · have := hc 0 (by omega); simp only [hvN] at h; omega
  · have := hc 0 (by omega); have := hc 1 (by omega); simp only [hvN] at h; omega
  · have := hc 0 (by omega); have := hc 1 (by omega); have := hc 2 (by omega); simp only [hvN] at h; omega
  · have := hc 0 (by omega); have := hc 1 (by omega); have := hc 2 (by omega); have := hc 3 (by omega); simp only [hvN] at h; omega
  · have := hc 0 (by omega); have := hc 1 (by omega); have := hc 2 (by omega); have := hc 3 (by omega); have := hc 4 (by omega); simp only [hvN] at h; omega
theorem hv_3 {c : Nat → Nat} {L K a0 a1 a2 : Nat} (hK : K = 27 * (27 * a0 + a1) + a2) (h0 : 1 ≤ a0 ∧ a0 ≤ 26) (h1 : 1 ≤ a1 ∧ a1 ≤ 26) (h2 : 1 ≤ a2 ∧ a2 ≤ 26) (hL : L ≤ 5) (hc : ∀ j, j < L → 1 ≤ c j ∧ c j ≤ 26) (h : hvN c L = K) : L = 3 ∧ c 0 = a0 ∧ c 1 = a1 ∧ c 2 = a2 := by
  rcases (show L = 0 ∨ L = 1 ∨ L = 2 ∨ L = 3 ∨ L = 4 ∨ L = 5 by omega) with rfl | rfl | rfl | rfl | rfl | rfl
  · simp only [hvN] at h; omega
  · have := hc 0 (by omega); simp only [hvN] at h; omega
  · have := hc 0 (by omega); have := hc 1 (by omega); simp only [hvN] at h; omega
  · have := hc 0 (by omega); have := hc 1 (by omega); have := hc 2 (by omega); simp only [hvN] at h; omega
  · have := hc 0 (by omega); have := hc 1 (by omega); have := hc 2 (by omega); have := hc 3 (by omega); simp only [hvN] at h; omega
  · have := hc 0 (by omega); have := hc 1 (by omega); have := hc 2 (by omega); have := hc 3 (by omega); have := hc 4 (by omega); simp only [hvN] at h; omega
/-- the letters between s and e spell word w -/
def spP9 (B : Nat → Int32) (w s e : Nat) : Prop := wlN w = e - s ∧ ∀ j, j < wlN w → B (s + j) = wbN w j
theorem spR_v {B : Nat → Int32} {w s : Nat} : ∀ k j, (∀ i, j ≤ i → i < j + k → B (s + i) = wbN w i) ∧ spR B w s k j = nI 1 ∨ (¬ (∀ i, j ≤ i → i < j + k → B (s + i) = wbN w i)) ∧ spR B w s k j = nI 0
  | 0, j => Or.inl ⟨fun i h1 h2 => by omega, rfl⟩
  | k + 1, j => by
    have e : spR B w s (k + 1) j = if B (s + j) = wbN w j then spR B w s k (j + 1) else nI 0 := rfl
    rw [e]
    by_cases q : B (s + j) = wbN w j
    · rw [if_pos q]
      rcases spR_v (B := B) (w := w) (s := s) k (j + 1) with ⟨h1, h2⟩ | ⟨h1, h2⟩
      · refine Or.inl ⟨fun i a1 a2 => ?_, h2⟩
        by_cases q2 : i = j
        · rw [q2]; exact q
        · exact h1 i (by omega) (by omega)
      · exact Or.inr ⟨fun h => h1 (fun i a1 a2 => h i (by omega) (by omega)), h2⟩
    · rw [if_neg q]
      exact Or.inr ⟨fun h => q (h j (Nat.le_refl _) (by omega)), rfl⟩
theorem spC_v (B : Nat → Int32) (w s e : Nat) : ¬ spC B w s e = 0 ↔ spP9 B w s e := by
  unfold spC spP9
  by_cases q : wlN w = e - s
  · rw [if_pos q]
    rcases spR_v (B := B) (w := w) (s := s) (wlN w) 0 with ⟨h1, h2⟩ | ⟨h1, h2⟩
    · rw [h2]
      exact ⟨fun _ => ⟨q, fun j hj => h1 j (Nat.zero_le _) (by omega)⟩, fun _ => by decide +kernel⟩
    · rw [h2]
      exact ⟨fun h => absurd rfl h, fun h => absurd (fun i a1 a2 => h.2 i (by omega)) h1⟩
  · rw [if_neg q]
    exact ⟨fun h => absurd rfl h, fun h => absurd h.1 q⟩
theorem wdR_v {B : Nat → Int32} {s e : Nat} : ∀ k w, w + k = 9 → (wdR B s e k w = 9 ∧ ∀ i, w ≤ i → i < 9 → ¬ spP9 B i s e) ∨ (w ≤ wdR B s e k w ∧ wdR B s e k w < 9 ∧ spP9 B (wdR B s e k w) s e)
  | 0, w, h => Or.inl ⟨rfl, fun i h1 h2 => by omega⟩
  | k + 1, w, h => by
    have e1 : wdR B s e (k + 1) w = if spC B w s e = 0 then wdR B s e k (w + 1) else w := rfl
    rw [e1]
    by_cases q : spC B w s e = 0
    · rw [if_pos q]
      have hn : ¬ spP9 B w s e := fun q2 => (spC_v B w s e).mpr q2 q
      rcases wdR_v (B := B) (s := s) (e := e) k (w + 1) (by omega) with ⟨h1, h2⟩ | ⟨h1, h2, h3⟩
      · refine Or.inl ⟨h1, fun i a1 a2 => ?_⟩
        by_cases q2 : i = w
        · rw [q2]; exact hn
        · exact h2 i (by omega) a2
      · exact Or.inr ⟨by omega, h2, h3⟩
    · rw [if_neg q]
      exact Or.inr ⟨Nat.le_refl _, by omega, (spC_v B w s e).mp q⟩
/-- the words' numbers -/
def kwN (w : Nat) : Nat := [384611, 8861527, 10491860, 405012, 1627727, 453774, 14432, 1842025, 670208].getD w 0
def klN (w j : Nat) : Nat := (([[19, 14, 15, 23], [16, 18, 5, 19, 19], [19, 20, 1, 3, 11], [20, 15, 15, 12], [3, 1, 18, 22, 5], [23, 1, 12, 12], [19, 21, 14], [3, 12, 15, 21, 4], [1, 7, 1, 9, 14]] : List (List Nat)).getD w []).getD j 0
theorem kl_v : ∀ w, w < 9 → hvN (klN w) (wlN w) = kwN w ∧ woN (nI (kwN w)) = nI w ∧ ∀ j, j < wlN w → wbN w j = nI (96 + klN w j) ∧ 1 ≤ klN w j ∧ klN w j ≤ 26 := by decide +kernel
theorem wo_1 : ∀ x : Int32, woN x = (-1) ∨ ∃ w, w < 9 ∧ x = nI (kwN w) := fun x => by
  unfold woN
  by_cases q : x = 14432
  · exact Or.inr ⟨6, by omega, q⟩
  rw [if_neg q]
  by_cases q : x = 384611
  · exact Or.inr ⟨0, by omega, q⟩
  rw [if_neg q]
  by_cases q : x = 405012
  · exact Or.inr ⟨3, by omega, q⟩
  rw [if_neg q]
  by_cases q : x = 453774
  · exact Or.inr ⟨5, by omega, q⟩
  rw [if_neg q]
  by_cases q : x = 670208
  · exact Or.inr ⟨8, by omega, q⟩
  rw [if_neg q]
  by_cases q : x = 1627727
  · exact Or.inr ⟨4, by omega, q⟩
  rw [if_neg q]
  by_cases q : x = 1842025
  · exact Or.inr ⟨7, by omega, q⟩
  rw [if_neg q]
  by_cases q : x = 8861527
  · exact Or.inr ⟨1, by omega, q⟩
  rw [if_neg q]
  by_cases q : x = 10491860
  · exact Or.inr ⟨2, by omega, q⟩
  rw [if_neg q]
  exact Or.inl rfl
theorem hvN_cg {c c' : Nat → Nat} : ∀ L, (∀ j, j < L → c j = c' j) → hvN c L = hvN c' L
  | 0, _ => rfl
  | L + 1, h => by
    show 27 * hvN c L + c L = 27 * hvN c' L + c' L
    rw [hvN_cg L (fun j hj => h j (by omega)), h L (Nat.lt_succ_self L)]
theorem hv_w {c : Nat → Nat} {L w : Nat} (hw : w < 9) (hL : L ≤ 5) (hc : ∀ j, j < L → 1 ≤ c j ∧ c j ≤ 26) (h : hvN c L = kwN w) : L = wlN w ∧ ∀ j, j < L → c j = klN w j := by
  have l5 : ∀ {a0 a1 a2 a3 a4 : Nat} {w : Nat}, wlN w = 5 → (klN w 0 = a0 ∧ klN w 1 = a1 ∧ klN w 2 = a2 ∧ klN w 3 = a3 ∧ klN w 4 = a4) → (L = 5 ∧ c 0 = a0 ∧ c 1 = a1 ∧ c 2 = a2 ∧ c 3 = a3 ∧ c 4 = a4) → L = wlN w ∧ ∀ j, j < L → c j = klN w j := fun e1 e2 e3 => by
    obtain ⟨rfl, b0, b1, b2, b3, b4⟩ := e3
    obtain ⟨d0, d1, d2, d3, d4⟩ := e2
    refine ⟨e1.symm, fun j hj => ?_⟩
    rcases (show j = 0 ∨ j = 1 ∨ j = 2 ∨ j = 3 ∨ j = 4 by omega) with rfl | rfl | rfl | rfl | rfl
    · rw [b0, d0]
    · rw [b1, d1]
    · rw [b2, d2]
    · rw [b3, d3]
    · rw [b4, d4]
  have l4 : ∀ {a0 a1 a2 a3 : Nat} {w : Nat}, wlN w = 4 → (klN w 0 = a0 ∧ klN w 1 = a1 ∧ klN w 2 = a2 ∧ klN w 3 = a3) → (L = 4 ∧ c 0 = a0 ∧ c 1 = a1 ∧ c 2 = a2 ∧ c 3 = a3) → L = wlN w ∧ ∀ j, j < L → c j = klN w j := fun e1 e2 e3 => by
    obtain ⟨rfl, b0, b1, b2, b3⟩ := e3
    obtain ⟨d0, d1, d2, d3⟩ := e2
    refine ⟨e1.symm, fun j hj => ?_⟩
    rcases (show j = 0 ∨ j = 1 ∨ j = 2 ∨ j = 3 by omega) with rfl | rfl | rfl | rfl
    · rw [b0, d0]
    · rw [b1, d1]
    · rw [b2, d2]
    · rw [b3, d3]
  rcases (show w = 0 ∨ w = 1 ∨ w = 2 ∨ w = 3 ∨ w = 4 ∨ w = 5 ∨ w = 6 ∨ w = 7 ∨ w = 8 by omega) with rfl | rfl | rfl | rfl | rfl | rfl | rfl | rfl | rfl
  · exact l4 (by decide) ⟨rfl, rfl, rfl, rfl⟩ (hv_4 (K := 384611) (by decide) (by decide) (by decide) (by decide) (by decide) hL hc h)
  · exact l5 (by decide) ⟨rfl, rfl, rfl, rfl, rfl⟩ (hv_5 (K := 8861527) (by decide) (by decide) (by decide) (by decide) (by decide) (by decide) hL hc h)
  · exact l5 (by decide) ⟨rfl, rfl, rfl, rfl, rfl⟩ (hv_5 (K := 10491860) (by decide) (by decide) (by decide) (by decide) (by decide) (by decide) hL hc h)
  · exact l4 (by decide) ⟨rfl, rfl, rfl, rfl⟩ (hv_4 (K := 405012) (by decide) (by decide) (by decide) (by decide) (by decide) hL hc h)
  · exact l5 (by decide) ⟨rfl, rfl, rfl, rfl, rfl⟩ (hv_5 (K := 1627727) (by decide) (by decide) (by decide) (by decide) (by decide) (by decide) hL hc h)
  · exact l4 (by decide) ⟨rfl, rfl, rfl, rfl⟩ (hv_4 (K := 453774) (by decide) (by decide) (by decide) (by decide) (by decide) hL hc h)
  · obtain ⟨b, b0, b1, b2⟩ := hv_3 (K := 14432) (a0 := 19) (a1 := 21) (a2 := 14) (by decide) (by decide) (by decide) (by decide) hL hc h
    subst b
    refine ⟨by decide, fun j hj => ?_⟩
    rcases (show j = 0 ∨ j = 1 ∨ j = 2 by omega) with rfl | rfl | rfl
    · rw [b0]; rfl
    · rw [b1]; rfl
    · rw [b2]; rfl
  · exact l5 (by decide) ⟨rfl, rfl, rfl, rfl, rfl⟩ (hv_5 (K := 1842025) (by decide) (by decide) (by decide) (by decide) (by decide) (by decide) hL hc h)
  · exact l5 (by decide) ⟨rfl, rfl, rfl, rfl, rfl⟩ (hv_5 (K := 670208) (by decide) (by decide) (by decide) (by decide) (by decide) (by decide) hL hc h)
theorem kw_lt : ∀ w, w < 9 → kwN w < 2 ^ 31 ∧ 1 ≤ kwN w ∧ wlN w ≤ 5 := by decide +kernel
/-- the class's word and the model's -/
theorem wd_wo {B : Nat → Int32} {s e : Nat} (hl : ∀ j, s ≤ j → j < e → ∃ c, 1 ≤ c ∧ c ≤ 26 ∧ B j = nI (96 + c)) : (wdC B s e = 9 ∧ woC B s e = (-1)) ∨ (wdC B s e < 9 ∧ woC B s e = nI (wdC B s e)) := by
  have hcx : ∃ c : Nat → Nat, ∀ j, j < e - s → (1 ≤ c j ∧ c j ≤ 26) ∧ B (s + j) = nI (96 + c j) := by
    have h1 : ∀ j, ∃ c, j < e - s → (1 ≤ c ∧ c ≤ 26) ∧ B (s + j) = nI (96 + c) := fun j => by
      by_cases q : j < e - s
      · obtain ⟨c, a1, a2, a3⟩ := hl (s + j) (by omega) (by omega)
        exact ⟨c, fun _ => ⟨⟨a1, a2⟩, a3⟩⟩
      · exact ⟨0, fun h => absurd h q⟩
    exact ⟨fun j => Classical.choose (h1 j), fun j hj => Classical.choose_spec (h1 j) hj⟩
  obtain ⟨c, hc⟩ := hcx
  rcases wdR_v (B := B) (s := s) (e := e) 9 0 (by omega) with ⟨h1, h2⟩ | ⟨-, h2, h3⟩
  · refine Or.inl ⟨h1, ?_⟩
    unfold woC
    by_cases q : e - s ≤ 5
    · rw [if_pos q, lt_v (c := c) (e - s) q (fun j hj => ⟨(hc j hj).1.2, (hc j hj).2⟩)]
      rcases wo_1 (nI (hvN c (e - s))) with q2 | ⟨w, hw, q2⟩
      · exact q2
      · exfalso
        have h5 := hv_le (c := c) (e - s) q (fun j hj => (hc j hj).1.2)
        have q3 := (nI_eq (by omega) (kw_lt w hw).1).mp q2
        obtain ⟨a1, a2⟩ := hv_w hw q (fun j hj => (hc j hj).1) q3
        refine h2 w (Nat.zero_le _) hw ⟨a1.symm, fun j hj => ?_⟩
        rw [(hc j (by omega)).2, a2 j (by omega), ((kl_v w hw).2.2 j hj).1]
    · rw [if_neg q]
      decide +kernel
  · refine Or.inr ⟨h2, ?_⟩
    have h2' : wdC B s e < 9 := h2
    have h3' : spP9 B (wdC B s e) s e := h3
    obtain ⟨p1, p2⟩ := h3'
    have h5 := (kw_lt _ h2').2.2
    obtain ⟨k1, k2, k3⟩ := kl_v _ h2'
    unfold woC
    rw [if_pos (by omega), lt_v (c := klN (wdC B s e)) (e - s) (by omega) (fun j hj => ⟨(k3 j (by omega)).2.2, by rw [p2 j (by omega), (k3 j (by omega)).1]⟩), ← p1, k1, k2]
