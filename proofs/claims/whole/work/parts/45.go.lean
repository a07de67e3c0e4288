/-! the model's orders: gone through, run -/
theorem ite_z {P : Prop} {inst : Decidable P} {a b : Nat} (h : (if P then a else b) = 0) (ha : ¬ a = 0) : ¬ P ∧ b = 0 := by
  by_cases q : P
  · rw [if_pos q] at h; exact absurd h ha
  · rw [if_neg q] at h; exact ⟨q, h⟩
def okMT (f : Nat → Int32) : Prop := okM f ∧ okTm f ∧ okSp f
theorem sp_of {f f' : Nat → Int32} (h10 : f' 10 = f 10) (hT : okTm f) (hs : ∀ j, 140 ≤ j → j < 145 → f' j = f j) (h : okSp f) : okSp f' := fun t ht => by
  have e : ztm f' = ztm f := by unfold ztm; rw [h10]
  have h5 := hT.2
  rw [hs _ (by omega) (by omega)]
  exact h t (by omega)
theorem mt_of {f f' : Nat → Int32} (h : ∀ j, (j = 10 ∨ (12 ≤ j ∧ j < 20) ∨ (140 ≤ j ∧ j < 145)) → f' j = f j) (H : okMT f) : okMT f' := ⟨okM_of (fun j h1 h2 => h j (Or.inr (Or.inl ⟨h1, h2⟩))) H.1, okTm_of (h 10 (Or.inl rfl)) H.2.1, sp_of (h 10 (Or.inl rfl)) H.2.1 (fun j h1 h2 => h j (Or.inr (Or.inr ⟨h1, h2⟩))) H.2.2⟩
theorem dmI_hi (f : Nat → Int32) {s : Nat} (hs : s < 8) : ∀ i j, i ≤ 6 → 140 ≤ j → (dmI f s i).2 j = f j
  | 0, _, _, _ => rfl
  | i + 1, j, hi, h => by
    have h1 := dmI_le f s i
    simp only [dmI]
    rw [pk_un (by omega), pk_un (by omega)]
    exact dmI_hi f hs i j (by omega) h
theorem dmF_hi {f : Nat → Int32} (hM : okM f) {s : Nat} (hs : s < 8) {j : Nat} (hj : 140 ≤ j) : dmF f s j = f j := (pk_un (by omega)).trans (dmI_hi f hs _ j (hM s hs).2 hj)
theorem mt_dm {f : Nat → Int32} (H : okMT f) {s : Nat} (hs : s < 8) : okMT (dmF f s) := ⟨okM_dm H.1 hs, okTm_of (dmF_lo f s 10 (by omega)) H.2.1, sp_of (dmF_lo f s 10 (by omega)) H.2.1 (fun j h1 h2 => dmF_hi H.1 hs h1) H.2.2⟩
theorem mt_pd {f : Nat → Int32} (H : okMT f) : ∀ s, s ≤ 8 → okMT (pdF f s)
  | 0, _ => H
  | s + 1, h => mt_dm (mt_pd H s (by omega)) (by omega)
theorem psF_hi (f : Nat → Int32) : ∀ c j, c ≤ 48 → 140 ≤ j → psF f c j = f j
  | 0, _, _, _ => rfl
  | c + 1, j, hc, h => by
    simp only [psF]
    rw [pk_un (by omega), pk_un (by omega)]
    exact psF_hi f c j (by omega) h
theorem mt_pt {f : Nat → Int32} (H : okMT f) (n : Nat) (a : Int32) : okMT (clF (ptF (pdF f 8) n) a) := mt_of (f := pdF f 8) (fun j hj => (clF_un _ _ (by omega) (by omega) (by omega)).trans (ptF_lo _ _ _ (by omega))) (mt_pd H 8 (Nat.le_refl 8))
theorem mt_p1 {f : Nat → Int32} (H : okMT f) : okMT (paF1 f) := mt_pt H _ _
theorem mt_ps {f : Nat → Int32} (H : okMT f) (c : Nat) (hc : c ≤ 48) : okMT (psF f c) := mt_of (fun j hj => by
  rcases hj with e | e | e
  · exact psF_lo f c j (by omega)
  · exact psF_lo f c j (by omega)
  · exact psF_hi f c j hc e.1) H
theorem mt_p0 {f : Nat → Int32} (H : okMT f) : okMT (paF0 f) := mt_pt (mt_ps H 48 (Nat.le_refl 48)) _ _
theorem mt_pn0 {f : Nat → Int32} (H : okMT f) : ∀ n, okMT (pn0 f n)
  | 0 => H
  | n + 1 => mt_p0 (mt_pn0 H n)
theorem mt_pn1 {f : Nat → Int32} (H : okMT f) : ∀ n, okMT (pn1 f n)
  | 0 => H
  | n + 1 => mt_p1 (mt_pn1 H n)
theorem mt_st {f : Nat → Int32} (H : okMT f) {s k : Nat} (hs : s < 8) (hk : k < 3) (hz : zhm f s < 6) : okMT (stF f s k) := by
  have e0 : ∀ j, (j = 10 ∨ (12 ≤ j ∧ j < 20) ∨ (140 ≤ j ∧ j < 145)) → (upd (upd (upd f (1 + k) (f (1 + k) - nI 1)) (44 + 6 * s + zhm f s) (nI k)) (92 + 6 * s + zhm f s) (nI 100)) j = f j := fun j hj => (pk_un (by omega)).trans ((pk_un (by omega)).trans (pk_un (by omega)))
  have H1 := mt_of e0 H
  have e1 : stF f s k (12 + s) = nI (zhm f s + 1) := by
    have e2 := e0 (12 + s) (by omega)
    unfold stF
    rw [e2, (H.1 s hs).1, nI_add]
    exact if_pos rfl
  have e3 : ∀ j, j ≠ 12 + s → stF f s k j = (upd (upd (upd f (1 + k) (f (1 + k) - nI 1)) (44 + 6 * s + zhm f s) (nI k)) (92 + 6 * s + zhm f s) (nI 100)) j := fun j hj => pk_un hj
  refine ⟨fun s' hs' => ?_, okTm_of (e3 10 (by omega)) H1.2.1, sp_of (e3 10 (by omega)) H1.2.1 (fun j h1 h2 => e3 j (by omega)) H1.2.2⟩
  by_cases q : s' = s
  · subst q
    have e4 : zhm (stF f s' k) s' = zhm f s' + 1 := by
      show (stF f s' k (12 + s')).toNatClampNeg = _
      rw [e1]
      exact nI_clamp (by omega)
    rw [e4]
    exact ⟨e1, by omega⟩
  · have e4 := e3 (12 + s') (by omega)
    have e5 : zhm (stF f s k) s' = zhm (upd (upd (upd f (1 + k) (f (1 + k) - nI 1)) (44 + 6 * s + zhm f s) (nI k)) (92 + 6 * s + zhm f s) (nI 100)) s' := by
      unfold zhm
      rw [e4]
      rfl
    rw [e5, e4]
    exact H1.1 s' hs'
theorem mt_at {f : Nat → Int32} (H : okMT f) {v : Nat} (hv : ¬ nI v = 0) (hz : ztm f < 5) : okMT (atF f v) := by
  have e1 : atF f v 10 = nI (ztm f + 1) := by
    have e2 : (upd (upd (upd f (140 + ztm f) (nI v)) (145 + ztm f) (nI 60)) (150 + ztm f) (nI 0)) 10 = f 10 := (pk_un (by omega)).trans ((pk_un (by omega)).trans (pk_un (by omega)))
    unfold atF
    rw [e2, H.2.1.1, nI_add]
    exact if_pos rfl
  have e4 : ztm (atF f v) = ztm f + 1 := by
    show (atF f v 10).toNatClampNeg = _
    rw [e1]
    exact nI_clamp (by omega)
  refine ⟨okM_of (fun j h1 h2 => (pk_un (by omega)).trans ((pk_un (by omega)).trans ((pk_un (by omega)).trans (pk_un (by omega))))) H.1, ?_, fun t ht => ?_⟩
  · unfold okTm
    rw [e4]
    exact ⟨e1, by omega⟩
  · rw [e4] at ht
    have e5 : atF f v (140 + t) = upd f (140 + ztm f) (nI v) (140 + t) := (pk_un (by omega)).trans ((pk_un (by omega)).trans (pk_un (by omega)))
    rw [e5]
    by_cases q : t = ztm f
    · subst q
      rw [show upd f (140 + ztm f) (nI v) (140 + ztm f) = nI v from if_pos rfl]
      exact hv
    · rw [pk_un (by omega)]
      exact H.2.2 t (by omega)
theorem mt_cv {f : Nat → Int32} (H : okMT f) {t s v u : Nat} (ht : t < 5) (hs : s < 8) (hv : v < 6) : okMT (cvE f t s v u) := mt_of (fun j hj => (pk_un (by omega)).trans ((pk_un (by omega)).trans ((pk_un (by omega)).trans ((pk_un (by omega)).trans (pk_un (by omega)))))) H
theorem cy_ok {f : Nat → Int32} (H : okMT f) {u0 u1 u2 u3 : Nat} (h0 : u0 < 2 ^ 32) (h1 : u1 < 2 ^ 32) (h2 : u2 < 2 ^ 32) : ∀ w, w < 9 → cyT f w u0 u1 u2 u3 = 0 → okMT (cyF f w u0 u1 u2 u3) :=
  w9 (by rw [cyT_0, cyF_0]; exact fun _ => mt_of (fun j hj => pk_un (by omega)) H)
    (by
      rw [cyT_1, cyF_1]; intro h
      have hk := isK_lt h0 (ite_z h (by decide)).1
      exact mt_of (fun j hj => (pk_un (by omega)).trans ((pk_un (by omega)).trans (pk_un (by omega)))) H)
    (by
      rw [cyT_2, cyF_2]; intro h
      obtain ⟨a1, h⟩ := ite_z h (by decide)
      obtain ⟨a2, h⟩ := ite_z h (by decide)
      obtain ⟨a3, h⟩ := ite_z h (by decide)
      obtain ⟨a4, h⟩ := ite_z h (by decide)
      exact mt_st H (isS_lt h0 a1) (isK_lt h1 a2) (zlt6 H.1 (isS_lt h0 a1) a4))
    (by
      rw [cyT_3, cyF_3]; intro h
      obtain ⟨a1, h⟩ := ite_z h (by decide)
      obtain ⟨a2, h⟩ := ite_z h (by decide)
      refine mt_at H (fun e => ?_) (zlt5 H.2.1 a2)
      have h3 := (wi_lt h0 (by omega) (by omega) a1)
      have h4 := nI_clamp (n := u0) (by omega)
      rw [e] at h4
      have h5 : (0 : Int32).toNatClampNeg = 0 := by decide +kernel
      omega)
    (by
      rw [cyT_4, cyF_4]; intro h
      obtain ⟨a1, h⟩ := ite_z h (by decide)
      obtain ⟨a2, h⟩ := ite_z h (by decide)
      obtain ⟨a3, h⟩ := ite_z h (by decide)
      have ht := isT_lt H.2.1 h0 a1
      have h5 := H.2.1.2
      exact mt_dm (mt_cv H (by omega) (isS_lt h1 a2) (isL_lt h2 a3)) (isS_lt h1 a2))
    (by
      rw [cyT_5, cyF_5]; intro h
      have hs := isS_lt h0 (ite_z h (by decide)).1
      exact mt_of (fun j hj => pk_un (by omega)) H)
    (by rw [cyT_6, cyF_6]; exact fun _ => mt_pn0 H _)
    (by rw [cyT_7, cyF_7]; exact fun _ => mt_pn1 H _)
    (by rw [cyT_8, cyF_8]; exact fun _ => mt_of (fun j hj => (pk_un (by omega)).trans ((pk_un (by omega)).trans (pk_un (by omega)))) H)
theorem rm_ge (B : Nat → Int32) {n i : Nat} (h : i ≤ n) : i ≤ (rm9 B n i).2.1 := by
  have h1 := skE_le B (nI 32) (nI 32) h
  unfold rm9
  split
  · exact Nat.le_refl i
  · split
    · exact h1.1
    · exact Nat.le_trans h1.1 (dm_le B n 4 _ _ h1.2).1
theorem mmR_le (B : Nat → Int32) (n : Nat) : ∀ k j p N, p ≤ n → p ≤ (mmR B n k j p N).1 ∧ (mmR B n k j p N).1 ≤ n
  | 0, j, p, N, h => ⟨Nat.le_refl p, h⟩
  | k + 1, j, p, N, h => by
    have h1 := rm_le B h
    have h2 := rm_ge B h
    unfold mmR
    split
    · have h3 := mmR_le B n k (j + 1) (rm9 B n p).2.1 (upd N j (rm9 B n p).1) h1
      exact ⟨Nat.le_trans h2 h3.1, h3.2⟩
    · exact ⟨h2, h1⟩
/-- behind an order that is read: where the next one may begin -/
theorem og_ok {h : Nat → Nat → Int32} {n i : Nat} (hn1 : n ≤ 150) (hi : i ≤ n) (c : ¬ ogV h n i = 0) : ∃ p, ogG h n i 0 5 = nI p ∧ i < p ∧ p ≤ n ∧ ogG h n i 0 4 = h 0 4 ∧ ogG h n i 0 6 = (-1) ∧ ogG h n i 1 = h 1 ∧ ogG h n i 5 = h 5 ∧ ogG h n i 0 0 = h 0 0 ∧ ogG h n i 0 7 = h 0 7 ∧ ogG h n i 0 8 = nI (wqN h n i) ∧ wqN h n i < 9 := by
  by_cases c1 : nwC (h 5) n i (nI 97) (nI 122) = 0
  · exact absurd (ogG_a c1).2 c
  obtain ⟨e, he⟩ : ∃ e, skE (h 5) n (nI 97) (nI 122) i = e := ⟨_, rfl⟩
  have hen := skE_le (h 5) (nI 97) (nI 122) hi
  rw [he] at hen
  rcases woC_9 (h 5) i e with hW | ⟨w, hw, hW⟩
  · exact absurd (ogG_b c1 he hW).2 c
  have hq := wq_e he hw hW
  obtain ⟨M, hM⟩ : ∃ M, mmS (h 5) n (nbN w) 0 e (h 6) (-1) = M := ⟨_, rfl⟩
  have hMl : e ≤ M.1 ∧ M.1 ≤ n := by
    have := mmR_le (h 5) n (nbN w - 0) 0 e (h 6) hen.2
    rw [← hM]
    unfold mmS
    rw [if_pos rfl]
    exact this
  obtain ⟨p, N, F⟩ := M
  by_cases c2 : F = (-1)
  · subst c2
    obtain ⟨s, hs⟩ : ∃ s, skE (h 5) n (nI 32) (nI 32) p = s := ⟨_, rfl⟩
    have hsl := skE_le (h 5) (nI 32) (nI 32) hMl.2
    rw [hs] at hsl
    by_cases c3 : nwC (h 5) n s (nI 59) (nI 59) = 0
    · have := (ogG_c c1 he hw hW (og_0 hM hs c3)).2
      rw [if_neg (nI_n1 (by omega))] at this
      exact absurd this c
    · have hG := (ogG_c c1 he hw hW (og_1 hM hs c3)).1
      have h7 := nwC_lt c3
      rw [hG, hq]
      exact ⟨s + 1, rfl, by have := hMl.1; have := hsl.1; have := hen.1; show i < s + 1; omega, by omega, rfl, rfl, rfl, rfl, rfl, rfl, rfl, hw⟩
  · have := (ogG_c c1 he hw hW (og_f hM c2)).2
    rw [if_neg c2] at this
    exact absurd this c
theorem cv_z {h : Nat → Nat → Int32} {w : Nat} (c : ¬ cyV h w = 0) : cyT (h 1) w (un (h 6 0)) (un (h 6 1)) (un (h 6 2)) (un (h 6 3)) = 0 := by
  unfold cyV at c
  split at c
  · assumption
  · exact absurd rfl c
/-- what is as it should be of the model behind an order -/
def goI (h : Nat → Nat → Int32) (n p : Nat) : Prop := h 0 4 = nI n ∧ h 0 5 = nI p ∧ p ≤ n ∧ h 0 6 = (-1) ∧ okMT (h 1)
theorem go_0 {h : Nat → Nat → Int32} {n i : Nat} (hn1 : n ≤ 150) (H : goI h n i) (c : ¬ ogV h n i = 0) : ∃ p, i < p ∧ goI (ogG h n i) n p := by
  obtain ⟨a1, a2, a3, a4, a5⟩ := H
  obtain ⟨p, b1, b2, b3, b4, b5, b6, b7, b8⟩ := og_ok hn1 a3 c
  exact ⟨p, b2, b4.trans a1, b1, b3, b5, b6.symm ▸ a5⟩
theorem ogY_n {h : Nat → Nat → Int32} {n i : Nat} (c : ¬ ogY h n i = 0) : ¬ ogV h n i = 0 ∧ ¬ cyV (ogG h n i) (wqN h n i) = 0 := by
  unfold ogY at c
  by_cases q : ogV h n i = 0
  · rw [if_pos q] at c; exact absurd rfl c
  · rw [if_neg q] at c; exact ⟨q, c⟩
theorem ogX_e {h : Nat → Nat → Int32} {n i : Nat} (c : ¬ ogY h n i = 0) : ogX h n i = va_up (va_up (ogG h n i) 0 (upd (upd (ogG h n i 0) 1 (nI 0)) 7 (ogG h n i 0 7 + nI 1))) 1 (cyF (ogG h n i 1) (wqN h n i) (un (ogG h n i 6 0)) (un (ogG h n i 6 1)) (un (ogG h n i 6 2)) (un (ogG h n i 6 3))) := by
  obtain ⟨c1, c2⟩ := ogY_n c
  unfold ogX cyU cyG cyM
  rw [if_neg c1, if_pos (cv_z c2)]
theorem go_1 {h : Nat → Nat → Int32} {n i : Nat} (hn1 : n ≤ 150) (H : goI h n i) (c : ¬ ogY h n i = 0) : ∃ p, i < p ∧ goI (ogX h n i) n p := by
  obtain ⟨c1, c2⟩ := ogY_n c
  obtain ⟨a1, a2, a3, a4, a5⟩ := H
  obtain ⟨p, b1, b2, b3, b4, b5, b6, b7, b8, b9, b10, b11⟩ := og_ok hn1 a3 c1
  rw [ogX_e c]
  exact ⟨p, b2, b4.trans a1, b1, b3, b5, cy_ok (f := ogG h n i 1) (by rw [b6]; exact a5) (un_lt _) (un_lt _) (un_lt _) _ b11 (cv_z c2)⟩
def spP (h : Nat → Nat → Int32) (n : Nat) : Nat := skE (h 5) n (nI 32) (nI 32) (h 0 5).toNatClampNeg
def spG (h : Nat → Nat → Int32) (n : Nat) : Nat → Nat → Int32 := va_up h 0 (upd (h 0) 5 (nI (spP h n)))
theorem sp_e {h : Nat → Nat → Int32} {n p s : Nat} (hp : h 0 5 = nI p) (hp1 : p < 2 ^ 31) (hs : skE (h 5) n (nI 32) (nI 32) p = s) : spP h n = s := by
  unfold spP
  rw [hp, nI_clamp hp1, hs]
theorem spG_e {h : Nat → Nat → Int32} {n s : Nat} (hs : spP h n = s) : spG h n = va_up h 0 (upd (h 0) 5 (nI s)) := by
  unfold spG
  rw [hs]
theorem go_sp {h : Nat → Nat → Int32} {n p s : Nat} (H : goI h n p) (hs : s ≤ n) : goI (va_up h 0 (upd (h 0) 5 (nI s))) n s := ⟨H.1, rfl, hs, H.2.2.2.1, H.2.2.2.2⟩
/-- orders, one behind another, from where one begins -/
def gtR (G : (Nat → Nat → Int32) → Nat → Nat → Nat → Nat → Int32) (V : (Nat → Nat → Int32) → Nat → Nat → Int32) (n : Nat) : Nat → (Nat → Nat → Int32) → Nat → Nat → Nat → Int32
  | 0, h, _ => h
  | k + 1, h, p => if V h n p = 0 then G h n p else if spP (G h n p) n < n then gtR G V n k (spG (G h n p) n) (spP (G h n p) n) else spG (G h n p) n
def gtI (G : (Nat → Nat → Int32) → Nat → Nat → Nat → Nat → Int32) (V : (Nat → Nat → Int32) → Nat → Nat → Int32) (n t : Nat) (h : Nat → Nat → Int32) (p : Nat) (b : Int32) (R : Nat → Nat → Int32) : Prop := (b = nI 0 ∧ h = R) ∨ (b = nI 1 ∧ p < n ∧ t ≤ p ∧ goI h n p ∧ gtR G V n (n - t) h p = R)
theorem gt_step {G : (Nat → Nat → Int32) → Nat → Nat → Nat → Nat → Int32} {V : (Nat → Nat → Int32) → Nat → Nat → Int32} {n t p : Nat} {h R : Nat → Nat → Int32} (ht : t < n) (hR : gtR G V n (n - t) h p = R) : (V h n p = 0 → G h n p = R) ∧ (¬ V h n p = 0 → (spP (G h n p) n < n → gtR G V n (n - (t + 1)) (spG (G h n p) n) (spP (G h n p) n) = R) ∧ (¬ spP (G h n p) n < n → spG (G h n p) n = R)) := by
  subst hR
  rw [show n - t = (n - (t + 1)) + 1 by omega]
  exact ⟨fun c => (if_pos c).symm, fun c => ⟨fun d => ((if_neg c).trans (if_pos d)).symm, fun d => ((if_neg c).trans (if_neg d)).symm⟩⟩
def gtH (h : Nat → Nat → Int32) (s : Nat) : Nat → Nat → Int32 := va_up h 0 (upd (upd (upd (upd (h 0) 5 (nI 0)) 6 (-1)) 7 (nI 0)) 5 (nI s))
def gtC (G : (Nat → Nat → Int32) → Nat → Nat → Nat → Nat → Int32) (V : (Nat → Nat → Int32) → Nat → Nat → Int32) (h : Nat → Nat → Int32) (n : Nat) : Nat → Nat → Int32 := if skE (h 5) n (nI 32) (nI 32) 0 < n then gtR G V n n (gtH h (skE (h 5) n (nI 32) (nI 32) 0)) (skE (h 5) n (nI 32) (nI 32) 0) else gtH h (skE (h 5) n (nI 32) (nI 32) 0)
theorem gt_c {G : (Nat → Nat → Int32) → Nat → Nat → Nat → Nat → Int32} {V : (Nat → Nat → Int32) → Nat → Nat → Int32} {n s : Nat} {h : Nat → Nat → Int32} (hs : skE (h 5) n (nI 32) (nI 32) 0 = s) : (s < n → gtR G V n (n - 0) (gtH h s) s = gtC G V h n) ∧ (¬ s < n → gtH h s = gtC G V h n) := by
  subst hs
  exact ⟨fun c => (if_pos c).symm, fun c => (if_neg c).symm⟩
theorem iX10_goThrough_X10 : ∀ w ∈ u_ws RX10 TX10 15, w ∈ wsX10_goThrough := by decide +kernel
set_option maxHeartbeats 4000000 in
set_option maxRecDepth 100000 in
/-- goThrough 0 -/
theorem c_X10_goThrough_0 {l : Launch} {y : zY} {D : va_G} (q : Nat → Nat) (h : Nat → Nat → Int32) (n : Nat) (hn : h 0 4 = nI n) (hn1 : n ≤ 150) (hmt : okMT (h 1)) : zM l y D yX10_goThrough wsX10_goThrough 9 203 [.ref (q 0), .int (nI 0)] (zMo y q h) (zMo y q (gtC ogG ogV h n)) (none) := by
  refine z_start (own := RX10) (cc := cX10_goThrough) (maxL := 4) (ret := none) rfl (by decide +kernel) rfl (Nat.le_of_ble_eq_true rfl) (zMo_fst _ _ _ _) ?_
  intro E hEl hEy hED hC hf
  subst hEl hEy hED
  have hkR : 0 ≤ E.2.2.2.2.2.1.cells ∧ 0 ≤ E.2.2.2.2.2.1.slots := ⟨Nat.zero_le _, Nat.zero_le _⟩
  refine z_cast (lv := [(0, .ref (q 0)), (1, .int (nI 0))]) (ws := (zMo (zy E) q h)) (st := []) ?_ rfl rfl rfl
  refine z_aload_n hC 0 rfl dX10_goThrough_0 ?_
  refine z_iconst hC (nI 0) (by decide +kernel) dX10_goThrough_1 ?_
  refine z_put hC 0 8 10 (ws' := zMo (zy E) q (va_up h 0 (upd (h 0) 5 (nI 0)))) tyX10 .int rfl rfl iX10_goThrough_X10 tyX10_ok nmX10 (by decide) (List.mem_of_getElem? (i := 1) (by decide +kernel)) rfl rfl (by decide +kernel) rfl rfl (Nat.le_of_ble_eq_true rfl) rfl dX10_goThrough_2 ?_
  refine z_aload_n hC 0 rfl dX10_goThrough_5 ?_
  refine z_iconst hC ((-1)) (by decide +kernel) dX10_goThrough_6 ?_
  refine z_put hC 0 8 11 (ws' := zMo (zy E) q (va_up h 0 (upd (upd (h 0) 5 (nI 0)) 6 (-1)))) tyX10 .int rfl rfl iX10_goThrough_X10 tyX10_ok nmX10 (by decide) (List.mem_of_getElem? (i := 2) (by decide +kernel)) rfl rfl (by decide +kernel) rfl rfl (Nat.le_of_ble_eq_true rfl) rfl dX10_goThrough_7 ?_
  refine z_aload_n hC 0 rfl dX10_goThrough_10 ?_
  refine z_iconst hC (nI 0) (by decide +kernel) dX10_goThrough_11 ?_
  refine z_put hC 0 8 12 (ws' := zMo (zy E) q (va_up h 0 (upd (upd (upd (h 0) 5 (nI 0)) 6 (-1)) 7 (nI 0)))) tyX10 .int rfl rfl iX10_goThrough_X10 tyX10_ok nmX10 (by decide) (List.mem_of_getElem? (i := 3) (by decide +kernel)) rfl rfl (by decide +kernel) rfl rfl (Nat.le_of_ble_eq_true rfl) rfl dX10_goThrough_12 ?_
  refine z_aload_n hC 0 rfl dX10_goThrough_15 ?_
  refine z_wV hC (As := []) (st := []) (ws2 := zMo (zy E) q (va_up (va_up h 0 (upd (upd (upd (h 0) 5 (nI 0)) 6 (-1)) 7 (nI 0))) 0 (upd (upd (upd (upd (h 0) 5 (nI 0)) 6 (-1)) 7 (nI 0)) 5 (nI (skE (h 5) n (nI 32) (nI 32) 0))))) (r := none) 0 (c_X10_passSpaces q (va_up h 0 (upd (upd (upd (h 0) 5 (nI 0)) 6 (-1)) 7 (nI 0))) n 0 hn hn1 rfl (Nat.zero_le n)) gX10_goThrough_X10_passSpaces (q0 := 0) (ci := 8) (by decide +kernel) rfl rfl rfl ⟨by decide, by decide⟩ (Nat.le_of_ble_eq_true rfl) rfl rfl dX10_goThrough_16 ?_ hkR
  have hsn := (skE_le (h 5) (nI 32) (nI 32) (Nat.zero_le n)).2
  generalize hs9 : skE (h 5) n (nI 32) (nI 32) 0 = s9 at hsn ⊢
  refine z_cast (lv := [(0, .ref (q 0)), (1, .int (nI 0))]) (ws := (zMo (zy E) q (gtH h s9))) (st := []) ?_ rfl rfl rfl
  refine z_aload_n hC 0 rfl dX10_goThrough_19 ?_
  refine z_get hC 0 8 10 (v := .int ((gtH h s9 0) 5)) rfl rfl iX10_goThrough_X10 (by decide) (List.mem_of_getElem? (i := 1) (by decide +kernel)) rfl rfl dX10_goThrough_20 ?_
  refine z_top (nI s9) rfl ?_
  refine z_aload_n hC 0 rfl dX10_goThrough_23 ?_
  refine z_get hC 0 8 9 (v := .int ((gtH h s9 0) 4)) rfl rfl iX10_goThrough_X10 (by decide) (List.mem_of_getElem? (i := 4) (by decide +kernel)) rfl rfl dX10_goThrough_24 ?_
  refine z_top (nI n) hn ?_
  refine z_icmp_ge hC 34 dX10_goThrough_27 (by decide) (fun c_27 => ?_) (fun c_27 => ?_)
  · have k_27 : n ≤ s9 := (nI_leI (by omega) (by omega)).mp c_27
    refine z_iconst hC (nI 0) (by decide +kernel) dX10_goThrough_34 ?_
    refine z_istore_n hC (by decide) (lv' := [(2, .int (nI 0)), (0, .ref (q 0)), (1, .int (nI 0))]) rfl dX10_goThrough_35 ?_
    have lp_36 : ∀ (d_36 t9 : Nat) (h9 : Nat → Nat → Int32) (p9 : Nat) (b9 : Int32), 150 < t9 + d_36 → t9 ≤ 150 → (gtI ogG ogV n t9 h9 p9 b9 (gtC ogG ogV h n)) → Z E 0 0 [(0, .ref (q 0)), (1, .int (nI 0)), (2, .int b9)] (zMo (zy E) q h9) 36 [] := by
      intro d_36
      induction d_36 with
      | zero => intro t9 h9 p9 b9 q1 q2; omega
      | succ d_36 ih_36 =>
        intro t9 h9 p9 b9 q1_36 q2_36 hI
        refine z_iload_n hC 2 rfl dX10_goThrough_36 ?_
        rcases hI with ⟨rfl, hR⟩ | ⟨rfl, hpn, htp, hgo, hR⟩
        · skip
          refine z_if_eq hC 78 dX10_goThrough_37 (by decide) (fun c_37 => ?_) (fun c_37 => ?_)
          · exact z_vret hC hf rfl rfl (by rw [hR]) dX10_goThrough_78
          · exact absurd c_37 (by decide +kernel)
        · have hst := gt_step (by omega) hR
          refine z_if_eq hC 78 dX10_goThrough_37 (by decide) (fun c_37 => ?_) (fun c_37 => ?_)
          · exact absurd c_37 (by decide +kernel)
          · refine z_aload_n hC 0 rfl dX10_goThrough_40 ?_
            refine z_iload_n hC 1 rfl dX10_goThrough_41 ?_
            refine z_wV hC (As := [.int (nI 0)]) (st := []) (ws2 := zMo (zy E) q (ogG h9 n p9)) (r := some (.int (ogV h9 n p9))) 1 (c_X10_order_0 q h9 n p9 hgo.1 hn1 hgo.2.1 hgo.2.2.1 hgo.2.2.2.1) gX10_goThrough_X10_order (q0 := 0) (ci := 8) (by decide +kernel) rfl rfl rfl ⟨by decide, by decide⟩ (Nat.le_of_ble_eq_true rfl) rfl rfl dX10_goThrough_42 ?_ hkR
            refine z_istore_n hC (by decide) (lv' := [(3, .int (ogV h9 n p9)), (0, .ref (q 0)), (1, .int (nI 0)), (2, .int (nI 1))]) rfl dX10_goThrough_45 ?_
            refine z_iload_n hC 0 rfl dX10_goThrough_46 ?_
            refine z_if_eq hC 54 dX10_goThrough_47 (by decide) (fun c_47 => ?_) (fun c_47 => ?_)
            · refine z_iload_n hC 0 rfl dX10_goThrough_54 ?_
              refine z_if_eq hC 73 dX10_goThrough_55 (by decide) (fun c_55 => ?_) (fun c_55 => ?_)
              · refine z_iconst hC (nI 0) (by decide +kernel) dX10_goThrough_73 ?_
                refine z_istore_n hC (by decide) (lv' := [(2, .int (nI 0)), (3, .int (ogV h9 n p9)), (0, .ref (q 0)), (1, .int (nI 0))]) rfl dX10_goThrough_74 ?_
                refine z_goto hC 36 dX10_goThrough_75 (by decide) ?_
                refine z_sub [2, 3, 0] (lv' := [(0, .ref (q 0)), (1, .int (nI 0)), (2, .int (nI 0))]) rfl ?_
                exact z_cast (ih_36 (t9 + 1) (ogG h9 n p9) 0 (nI 0) (by omega) (by omega) (Or.inl ⟨rfl, hst.1 c_47⟩)) rfl rfl rfl
              · exact absurd c_47 c_55
            · obtain ⟨p8, hp8, hg8⟩ := go_0 hn1 hgo c_47
              have hs2 := hst.2 c_47
              refine z_aload_n hC 1 rfl dX10_goThrough_50 ?_
              refine z_wV hC (As := []) (st := []) (ws2 := zMo (zy E) q (va_up (ogG h9 n p9) 0 (upd (ogG h9 n p9 0) 5 (nI (skE (ogG h9 n p9 5) n (nI 32) (nI 32) p8))))) (r := none) 0 (c_X10_passSpaces q (ogG h9 n p9) n p8 hg8.1 hn1 hg8.2.1 hg8.2.2.1) gX10_goThrough_X10_passSpaces (q0 := 0) (ci := 8) (by decide +kernel) rfl rfl rfl ⟨by decide, by decide⟩ (Nat.le_of_ble_eq_true rfl) rfl rfl dX10_goThrough_51 ?_ hkR
              have hs8l := skE_le (ogG h9 n p9 5) (nI 32) (nI 32) hg8.2.2.1
              obtain ⟨s8, hs8⟩ : ∃ s, skE (ogG h9 n p9 5) n (nI 32) (nI 32) p8 = s := ⟨_, rfl⟩
              rw [hs8] at hs8l
              have hsp := sp_e hg8.2.1 (by have := hg8.2.2.1; omega) hs8
              refine z_cast (lv := [(3, .int (ogV h9 n p9)), (0, .ref (q 0)), (1, .int (nI 0)), (2, .int (nI 1))]) (ws := (zMo (zy E) q (va_up (ogG h9 n p9) 0 (upd (ogG h9 n p9 0) 5 (nI s8))))) (st := []) ?_ rfl (by rw [hs8]) rfl
              refine z_iload_n hC 0 rfl dX10_goThrough_54 ?_
              refine z_if_eq hC 73 dX10_goThrough_55 (by decide) (fun c_55 => ?_) (fun c_55 => ?_)
              · exact absurd c_55 c_47
              · refine z_aload_n hC 1 rfl dX10_goThrough_58 ?_
                refine z_get hC 0 8 10 (v := .int ((va_up (ogG h9 n p9) 0 (upd (ogG h9 n p9 0) 5 (nI s8)) 0) 5)) rfl rfl iX10_goThrough_X10 (by decide) (List.mem_of_getElem? (i := 1) (by decide +kernel)) rfl rfl dX10_goThrough_59 ?_
                refine z_top (nI s8) rfl ?_
                refine z_aload_n hC 1 rfl dX10_goThrough_62 ?_
                refine z_get hC 0 8 9 (v := .int ((va_up (ogG h9 n p9) 0 (upd (ogG h9 n p9 0) 5 (nI s8)) 0) 4)) rfl rfl iX10_goThrough_X10 (by decide) (List.mem_of_getElem? (i := 4) (by decide +kernel)) rfl rfl dX10_goThrough_63 ?_
                refine z_top (nI n) hg8.1 ?_
                refine z_icmp_ge hC 73 dX10_goThrough_66 (by decide) (fun c_66 => ?_) (fun c_66 => ?_)
                · have k_66 : n ≤ s8 := (nI_leI (by omega) (by omega)).mp c_66
                  refine z_iconst hC (nI 0) (by decide +kernel) dX10_goThrough_73 ?_
                  refine z_istore_n hC (by decide) (lv' := [(2, .int (nI 0)), (3, .int (ogV h9 n p9)), (0, .ref (q 0)), (1, .int (nI 0))]) rfl dX10_goThrough_74 ?_
                  refine z_goto hC 36 dX10_goThrough_75 (by decide) ?_
                  refine z_sub [2, 3, 0] (lv' := [(0, .ref (q 0)), (1, .int (nI 0)), (2, .int (nI 0))]) rfl ?_
                  exact z_cast (ih_36 (t9 + 1) (va_up (ogG h9 n p9) 0 (upd (ogG h9 n p9 0) 5 (nI s8))) s8 (nI 0) (by omega) (by omega) (Or.inl ⟨rfl, ((spG_e hsp).symm.trans (hs2.2 (by omega)))⟩)) rfl rfl rfl
                · have k_66 : ¬ (n ≤ s8) := fun q => c_66 ((nI_leI (by omega) (by omega)).mpr q)
                  refine z_iconst hC (nI 1) (by decide +kernel) dX10_goThrough_69 ?_
                  refine z_goto hC 74 dX10_goThrough_70 (by decide) ?_
                  refine z_istore_n hC (by decide) (lv' := [(2, .int (nI 1)), (3, .int (ogV h9 n p9)), (0, .ref (q 0)), (1, .int (nI 0))]) rfl dX10_goThrough_74 ?_
                  refine z_goto hC 36 dX10_goThrough_75 (by decide) ?_
                  refine z_sub [2, 3, 0] (lv' := [(0, .ref (q 0)), (1, .int (nI 0)), (2, .int (nI 1))]) rfl ?_
                  exact z_cast (ih_36 (t9 + 1) (va_up (ogG h9 n p9) 0 (upd (ogG h9 n p9 0) 5 (nI s8))) s8 (nI 1) (by omega) (by omega) (Or.inr ⟨rfl, (by omega), (by omega), go_sp hg8 hs8l.2, (by have := hs2.1 (by omega); rw [spG_e hsp, hsp] at this; exact this)⟩)) rfl rfl rfl
    refine z_sub [1, 2, 0] (lv' := [(0, .ref (q 0)), (1, .int (nI 0)), (2, .int (nI 0))]) rfl ?_
    exact z_cast (lp_36 (150 + 1) 0 (gtH h s9) s9 (nI 0) (by omega) (by omega) (Or.inl ⟨rfl, (gt_c hs9).2 (by omega)⟩)) rfl rfl rfl
  · have k_27 : ¬ (n ≤ s9) := fun q => c_27 ((nI_leI (by omega) (by omega)).mpr q)
    refine z_iconst hC (nI 1) (by decide +kernel) dX10_goThrough_30 ?_
    refine z_goto hC 35 dX10_goThrough_31 (by decide) ?_
    refine z_istore_n hC (by decide) (lv' := [(2, .int (nI 1)), (0, .ref (q 0)), (1, .int (nI 0))]) rfl dX10_goThrough_35 ?_
    have lp_36 : ∀ (d_36 t9 : Nat) (h9 : Nat → Nat → Int32) (p9 : Nat) (b9 : Int32), 150 < t9 + d_36 → t9 ≤ 150 → (gtI ogG ogV n t9 h9 p9 b9 (gtC ogG ogV h n)) → Z E 0 0 [(0, .ref (q 0)), (1, .int (nI 0)), (2, .int b9)] (zMo (zy E) q h9) 36 [] := by
      intro d_36
      induction d_36 with
      | zero => intro t9 h9 p9 b9 q1 q2; omega
      | succ d_36 ih_36 =>
        intro t9 h9 p9 b9 q1_36 q2_36 hI
        refine z_iload_n hC 2 rfl dX10_goThrough_36 ?_
        rcases hI with ⟨rfl, hR⟩ | ⟨rfl, hpn, htp, hgo, hR⟩
        · skip
          refine z_if_eq hC 78 dX10_goThrough_37 (by decide) (fun c_37 => ?_) (fun c_37 => ?_)
          · exact z_vret hC hf rfl rfl (by rw [hR]) dX10_goThrough_78
          · exact absurd c_37 (by decide +kernel)
        · have hst := gt_step (by omega) hR
          refine z_if_eq hC 78 dX10_goThrough_37 (by decide) (fun c_37 => ?_) (fun c_37 => ?_)
          · exact absurd c_37 (by decide +kernel)
          · refine z_aload_n hC 0 rfl dX10_goThrough_40 ?_
            refine z_iload_n hC 1 rfl dX10_goThrough_41 ?_
            refine z_wV hC (As := [.int (nI 0)]) (st := []) (ws2 := zMo (zy E) q (ogG h9 n p9)) (r := some (.int (ogV h9 n p9))) 1 (c_X10_order_0 q h9 n p9 hgo.1 hn1 hgo.2.1 hgo.2.2.1 hgo.2.2.2.1) gX10_goThrough_X10_order (q0 := 0) (ci := 8) (by decide +kernel) rfl rfl rfl ⟨by decide, by decide⟩ (Nat.le_of_ble_eq_true rfl) rfl rfl dX10_goThrough_42 ?_ hkR
            refine z_istore_n hC (by decide) (lv' := [(3, .int (ogV h9 n p9)), (0, .ref (q 0)), (1, .int (nI 0)), (2, .int (nI 1))]) rfl dX10_goThrough_45 ?_
            refine z_iload_n hC 0 rfl dX10_goThrough_46 ?_
            refine z_if_eq hC 54 dX10_goThrough_47 (by decide) (fun c_47 => ?_) (fun c_47 => ?_)
            · refine z_iload_n hC 0 rfl dX10_goThrough_54 ?_
              refine z_if_eq hC 73 dX10_goThrough_55 (by decide) (fun c_55 => ?_) (fun c_55 => ?_)
              · refine z_iconst hC (nI 0) (by decide +kernel) dX10_goThrough_73 ?_
                refine z_istore_n hC (by decide) (lv' := [(2, .int (nI 0)), (3, .int (ogV h9 n p9)), (0, .ref (q 0)), (1, .int (nI 0))]) rfl dX10_goThrough_74 ?_
                refine z_goto hC 36 dX10_goThrough_75 (by decide) ?_
                refine z_sub [2, 3, 0] (lv' := [(0, .ref (q 0)), (1, .int (nI 0)), (2, .int (nI 0))]) rfl ?_
                exact z_cast (ih_36 (t9 + 1) (ogG h9 n p9) 0 (nI 0) (by omega) (by omega) (Or.inl ⟨rfl, hst.1 c_47⟩)) rfl rfl rfl
              · exact absurd c_47 c_55
            · obtain ⟨p8, hp8, hg8⟩ := go_0 hn1 hgo c_47
              have hs2 := hst.2 c_47
              refine z_aload_n hC 1 rfl dX10_goThrough_50 ?_
              refine z_wV hC (As := []) (st := []) (ws2 := zMo (zy E) q (va_up (ogG h9 n p9) 0 (upd (ogG h9 n p9 0) 5 (nI (skE (ogG h9 n p9 5) n (nI 32) (nI 32) p8))))) (r := none) 0 (c_X10_passSpaces q (ogG h9 n p9) n p8 hg8.1 hn1 hg8.2.1 hg8.2.2.1) gX10_goThrough_X10_passSpaces (q0 := 0) (ci := 8) (by decide +kernel) rfl rfl rfl ⟨by decide, by decide⟩ (Nat.le_of_ble_eq_true rfl) rfl rfl dX10_goThrough_51 ?_ hkR
              have hs8l := skE_le (ogG h9 n p9 5) (nI 32) (nI 32) hg8.2.2.1
              obtain ⟨s8, hs8⟩ : ∃ s, skE (ogG h9 n p9 5) n (nI 32) (nI 32) p8 = s := ⟨_, rfl⟩
              rw [hs8] at hs8l
              have hsp := sp_e hg8.2.1 (by have := hg8.2.2.1; omega) hs8
              refine z_cast (lv := [(3, .int (ogV h9 n p9)), (0, .ref (q 0)), (1, .int (nI 0)), (2, .int (nI 1))]) (ws := (zMo (zy E) q (va_up (ogG h9 n p9) 0 (upd (ogG h9 n p9 0) 5 (nI s8))))) (st := []) ?_ rfl (by rw [hs8]) rfl
              refine z_iload_n hC 0 rfl dX10_goThrough_54 ?_
              refine z_if_eq hC 73 dX10_goThrough_55 (by decide) (fun c_55 => ?_) (fun c_55 => ?_)
              · exact absurd c_55 c_47
              · refine z_aload_n hC 1 rfl dX10_goThrough_58 ?_
                refine z_get hC 0 8 10 (v := .int ((va_up (ogG h9 n p9) 0 (upd (ogG h9 n p9 0) 5 (nI s8)) 0) 5)) rfl rfl iX10_goThrough_X10 (by decide) (List.mem_of_getElem? (i := 1) (by decide +kernel)) rfl rfl dX10_goThrough_59 ?_
                refine z_top (nI s8) rfl ?_
                refine z_aload_n hC 1 rfl dX10_goThrough_62 ?_
                refine z_get hC 0 8 9 (v := .int ((va_up (ogG h9 n p9) 0 (upd (ogG h9 n p9 0) 5 (nI s8)) 0) 4)) rfl rfl iX10_goThrough_X10 (by decide) (List.mem_of_getElem? (i := 4) (by decide +kernel)) rfl rfl dX10_goThrough_63 ?_
                refine z_top (nI n) hg8.1 ?_
                refine z_icmp_ge hC 73 dX10_goThrough_66 (by decide) (fun c_66 => ?_) (fun c_66 => ?_)
                · have k_66 : n ≤ s8 := (nI_leI (by omega) (by omega)).mp c_66
                  refine z_iconst hC (nI 0) (by decide +kernel) dX10_goThrough_73 ?_
                  refine z_istore_n hC (by decide) (lv' := [(2, .int (nI 0)), (3, .int (ogV h9 n p9)), (0, .ref (q 0)), (1, .int (nI 0))]) rfl dX10_goThrough_74 ?_
                  refine z_goto hC 36 dX10_goThrough_75 (by decide) ?_
                  refine z_sub [2, 3, 0] (lv' := [(0, .ref (q 0)), (1, .int (nI 0)), (2, .int (nI 0))]) rfl ?_
                  exact z_cast (ih_36 (t9 + 1) (va_up (ogG h9 n p9) 0 (upd (ogG h9 n p9 0) 5 (nI s8))) s8 (nI 0) (by omega) (by omega) (Or.inl ⟨rfl, ((spG_e hsp).symm.trans (hs2.2 (by omega)))⟩)) rfl rfl rfl
                · have k_66 : ¬ (n ≤ s8) := fun q => c_66 ((nI_leI (by omega) (by omega)).mpr q)
                  refine z_iconst hC (nI 1) (by decide +kernel) dX10_goThrough_69 ?_
                  refine z_goto hC 74 dX10_goThrough_70 (by decide) ?_
                  refine z_istore_n hC (by decide) (lv' := [(2, .int (nI 1)), (3, .int (ogV h9 n p9)), (0, .ref (q 0)), (1, .int (nI 0))]) rfl dX10_goThrough_74 ?_
                  refine z_goto hC 36 dX10_goThrough_75 (by decide) ?_
                  refine z_sub [2, 3, 0] (lv' := [(0, .ref (q 0)), (1, .int (nI 0)), (2, .int (nI 1))]) rfl ?_
                  exact z_cast (ih_36 (t9 + 1) (va_up (ogG h9 n p9) 0 (upd (ogG h9 n p9 0) 5 (nI s8))) s8 (nI 1) (by omega) (by omega) (Or.inr ⟨rfl, (by omega), (by omega), go_sp hg8 hs8l.2, (by have := hs2.1 (by omega); rw [spG_e hsp, hsp] at this; exact this)⟩)) rfl rfl rfl
    refine z_sub [1, 2, 0] (lv' := [(0, .ref (q 0)), (1, .int (nI 0)), (2, .int (nI 1))]) rfl ?_
    exact z_cast (lp_36 (150 + 1) 0 (gtH h s9) s9 (nI 1) (by omega) (by omega) (Or.inr ⟨rfl, (by omega), Nat.zero_le _, ⟨hn, rfl, hsn, rfl, hmt⟩, (gt_c hs9).1 (by omega)⟩)) rfl rfl rfl

set_option maxHeartbeats 4000000 in
set_option maxRecDepth 100000 in
/-- goThrough 1 -/
theorem c_X10_goThrough_1 {l : Launch} {y : zY} {D : va_G} (q : Nat → Nat) (h : Nat → Nat → Int32) (n : Nat) (hn : h 0 4 = nI n) (hn1 : n ≤ 150) (hmt : okMT (h 1)) : zM l y D yX10_goThrough wsX10_goThrough 9 203 [.ref (q 0), .int (nI 1)] (zMo y q h) (zMo y q (gtC ogX ogY h n)) (none) := by
  refine z_start (own := RX10) (cc := cX10_goThrough) (maxL := 4) (ret := none) rfl (by decide +kernel) rfl (Nat.le_of_ble_eq_true rfl) (zMo_fst _ _ _ _) ?_
  intro E hEl hEy hED hC hf
  subst hEl hEy hED
  have hkR : 0 ≤ E.2.2.2.2.2.1.cells ∧ 0 ≤ E.2.2.2.2.2.1.slots := ⟨Nat.zero_le _, Nat.zero_le _⟩
  refine z_cast (lv := [(0, .ref (q 0)), (1, .int (nI 1))]) (ws := (zMo (zy E) q h)) (st := []) ?_ rfl rfl rfl
  refine z_aload_n hC 0 rfl dX10_goThrough_0 ?_
  refine z_iconst hC (nI 0) (by decide +kernel) dX10_goThrough_1 ?_
  refine z_put hC 0 8 10 (ws' := zMo (zy E) q (va_up h 0 (upd (h 0) 5 (nI 0)))) tyX10 .int rfl rfl iX10_goThrough_X10 tyX10_ok nmX10 (by decide) (List.mem_of_getElem? (i := 1) (by decide +kernel)) rfl rfl (by decide +kernel) rfl rfl (Nat.le_of_ble_eq_true rfl) rfl dX10_goThrough_2 ?_
  refine z_aload_n hC 0 rfl dX10_goThrough_5 ?_
  refine z_iconst hC ((-1)) (by decide +kernel) dX10_goThrough_6 ?_
  refine z_put hC 0 8 11 (ws' := zMo (zy E) q (va_up h 0 (upd (upd (h 0) 5 (nI 0)) 6 (-1)))) tyX10 .int rfl rfl iX10_goThrough_X10 tyX10_ok nmX10 (by decide) (List.mem_of_getElem? (i := 2) (by decide +kernel)) rfl rfl (by decide +kernel) rfl rfl (Nat.le_of_ble_eq_true rfl) rfl dX10_goThrough_7 ?_
  refine z_aload_n hC 0 rfl dX10_goThrough_10 ?_
  refine z_iconst hC (nI 0) (by decide +kernel) dX10_goThrough_11 ?_
  refine z_put hC 0 8 12 (ws' := zMo (zy E) q (va_up h 0 (upd (upd (upd (h 0) 5 (nI 0)) 6 (-1)) 7 (nI 0)))) tyX10 .int rfl rfl iX10_goThrough_X10 tyX10_ok nmX10 (by decide) (List.mem_of_getElem? (i := 3) (by decide +kernel)) rfl rfl (by decide +kernel) rfl rfl (Nat.le_of_ble_eq_true rfl) rfl dX10_goThrough_12 ?_
  refine z_aload_n hC 0 rfl dX10_goThrough_15 ?_
  refine z_wV hC (As := []) (st := []) (ws2 := zMo (zy E) q (va_up (va_up h 0 (upd (upd (upd (h 0) 5 (nI 0)) 6 (-1)) 7 (nI 0))) 0 (upd (upd (upd (upd (h 0) 5 (nI 0)) 6 (-1)) 7 (nI 0)) 5 (nI (skE (h 5) n (nI 32) (nI 32) 0))))) (r := none) 0 (c_X10_passSpaces q (va_up h 0 (upd (upd (upd (h 0) 5 (nI 0)) 6 (-1)) 7 (nI 0))) n 0 hn hn1 rfl (Nat.zero_le n)) gX10_goThrough_X10_passSpaces (q0 := 0) (ci := 8) (by decide +kernel) rfl rfl rfl ⟨by decide, by decide⟩ (Nat.le_of_ble_eq_true rfl) rfl rfl dX10_goThrough_16 ?_ hkR
  have hsn := (skE_le (h 5) (nI 32) (nI 32) (Nat.zero_le n)).2
  generalize hs9 : skE (h 5) n (nI 32) (nI 32) 0 = s9 at hsn ⊢
  refine z_cast (lv := [(0, .ref (q 0)), (1, .int (nI 1))]) (ws := (zMo (zy E) q (gtH h s9))) (st := []) ?_ rfl rfl rfl
  refine z_aload_n hC 0 rfl dX10_goThrough_19 ?_
  refine z_get hC 0 8 10 (v := .int ((gtH h s9 0) 5)) rfl rfl iX10_goThrough_X10 (by decide) (List.mem_of_getElem? (i := 1) (by decide +kernel)) rfl rfl dX10_goThrough_20 ?_
  refine z_top (nI s9) rfl ?_
  refine z_aload_n hC 0 rfl dX10_goThrough_23 ?_
  refine z_get hC 0 8 9 (v := .int ((gtH h s9 0) 4)) rfl rfl iX10_goThrough_X10 (by decide) (List.mem_of_getElem? (i := 4) (by decide +kernel)) rfl rfl dX10_goThrough_24 ?_
  refine z_top (nI n) hn ?_
  refine z_icmp_ge hC 34 dX10_goThrough_27 (by decide) (fun c_27 => ?_) (fun c_27 => ?_)
  · have k_27 : n ≤ s9 := (nI_leI (by omega) (by omega)).mp c_27
    refine z_iconst hC (nI 0) (by decide +kernel) dX10_goThrough_34 ?_
    refine z_istore_n hC (by decide) (lv' := [(2, .int (nI 0)), (0, .ref (q 0)), (1, .int (nI 1))]) rfl dX10_goThrough_35 ?_
    have lp_36 : ∀ (d_36 t9 : Nat) (h9 : Nat → Nat → Int32) (p9 : Nat) (b9 : Int32), 150 < t9 + d_36 → t9 ≤ 150 → (gtI ogX ogY n t9 h9 p9 b9 (gtC ogX ogY h n)) → Z E 0 0 [(0, .ref (q 0)), (1, .int (nI 1)), (2, .int b9)] (zMo (zy E) q h9) 36 [] := by
      intro d_36
      induction d_36 with
      | zero => intro t9 h9 p9 b9 q1 q2; omega
      | succ d_36 ih_36 =>
        intro t9 h9 p9 b9 q1_36 q2_36 hI
        refine z_iload_n hC 2 rfl dX10_goThrough_36 ?_
        rcases hI with ⟨rfl, hR⟩ | ⟨rfl, hpn, htp, hgo, hR⟩
        · skip
          refine z_if_eq hC 78 dX10_goThrough_37 (by decide) (fun c_37 => ?_) (fun c_37 => ?_)
          · exact z_vret hC hf rfl rfl (by rw [hR]) dX10_goThrough_78
          · exact absurd c_37 (by decide +kernel)
        · have hst := gt_step (by omega) hR
          refine z_if_eq hC 78 dX10_goThrough_37 (by decide) (fun c_37 => ?_) (fun c_37 => ?_)
          · exact absurd c_37 (by decide +kernel)
          · refine z_aload_n hC 0 rfl dX10_goThrough_40 ?_
            refine z_iload_n hC 1 rfl dX10_goThrough_41 ?_
            refine z_wV hC (As := [.int (nI 1)]) (st := []) (ws2 := zMo (zy E) q (ogX h9 n p9)) (r := some (.int (ogY h9 n p9))) 1 (c_X10_order_1 q h9 n p9 hgo.1 hn1 hgo.2.1 hgo.2.2.1 hgo.2.2.2.1 hgo.2.2.2.2.1 hgo.2.2.2.2.2.1 hgo.2.2.2.2.2.2) gX10_goThrough_X10_order (q0 := 0) (ci := 8) (by decide +kernel) rfl rfl rfl ⟨by decide, by decide⟩ (Nat.le_of_ble_eq_true rfl) rfl rfl dX10_goThrough_42 ?_ hkR
            refine z_istore_n hC (by decide) (lv' := [(3, .int (ogY h9 n p9)), (0, .ref (q 0)), (1, .int (nI 1)), (2, .int (nI 1))]) rfl dX10_goThrough_45 ?_
            refine z_iload_n hC 0 rfl dX10_goThrough_46 ?_
            refine z_if_eq hC 54 dX10_goThrough_47 (by decide) (fun c_47 => ?_) (fun c_47 => ?_)
            · refine z_iload_n hC 0 rfl dX10_goThrough_54 ?_
              refine z_if_eq hC 73 dX10_goThrough_55 (by decide) (fun c_55 => ?_) (fun c_55 => ?_)
              · refine z_iconst hC (nI 0) (by decide +kernel) dX10_goThrough_73 ?_
                refine z_istore_n hC (by decide) (lv' := [(2, .int (nI 0)), (3, .int (ogY h9 n p9)), (0, .ref (q 0)), (1, .int (nI 1))]) rfl dX10_goThrough_74 ?_
                refine z_goto hC 36 dX10_goThrough_75 (by decide) ?_
                refine z_sub [2, 3, 0] (lv' := [(0, .ref (q 0)), (1, .int (nI 1)), (2, .int (nI 0))]) rfl ?_
                exact z_cast (ih_36 (t9 + 1) (ogX h9 n p9) 0 (nI 0) (by omega) (by omega) (Or.inl ⟨rfl, hst.1 c_47⟩)) rfl rfl rfl
              · exact absurd c_47 c_55
            · obtain ⟨p8, hp8, hg8⟩ := go_1 hn1 hgo c_47
              have hs2 := hst.2 c_47
              refine z_aload_n hC 1 rfl dX10_goThrough_50 ?_
              refine z_wV hC (As := []) (st := []) (ws2 := zMo (zy E) q (va_up (ogX h9 n p9) 0 (upd (ogX h9 n p9 0) 5 (nI (skE (ogX h9 n p9 5) n (nI 32) (nI 32) p8))))) (r := none) 0 (c_X10_passSpaces q (ogX h9 n p9) n p8 hg8.1 hn1 hg8.2.1 hg8.2.2.1) gX10_goThrough_X10_passSpaces (q0 := 0) (ci := 8) (by decide +kernel) rfl rfl rfl ⟨by decide, by decide⟩ (Nat.le_of_ble_eq_true rfl) rfl rfl dX10_goThrough_51 ?_ hkR
              have hs8l := skE_le (ogX h9 n p9 5) (nI 32) (nI 32) hg8.2.2.1
              obtain ⟨s8, hs8⟩ : ∃ s, skE (ogX h9 n p9 5) n (nI 32) (nI 32) p8 = s := ⟨_, rfl⟩
              rw [hs8] at hs8l
              have hsp := sp_e hg8.2.1 (by have := hg8.2.2.1; omega) hs8
              refine z_cast (lv := [(3, .int (ogY h9 n p9)), (0, .ref (q 0)), (1, .int (nI 1)), (2, .int (nI 1))]) (ws := (zMo (zy E) q (va_up (ogX h9 n p9) 0 (upd (ogX h9 n p9 0) 5 (nI s8))))) (st := []) ?_ rfl (by rw [hs8]) rfl
              refine z_iload_n hC 0 rfl dX10_goThrough_54 ?_
              refine z_if_eq hC 73 dX10_goThrough_55 (by decide) (fun c_55 => ?_) (fun c_55 => ?_)
              · exact absurd c_55 c_47
              · refine z_aload_n hC 1 rfl dX10_goThrough_58 ?_
                refine z_get hC 0 8 10 (v := .int ((va_up (ogX h9 n p9) 0 (upd (ogX h9 n p9 0) 5 (nI s8)) 0) 5)) rfl rfl iX10_goThrough_X10 (by decide) (List.mem_of_getElem? (i := 1) (by decide +kernel)) rfl rfl dX10_goThrough_59 ?_
                refine z_top (nI s8) rfl ?_
                refine z_aload_n hC 1 rfl dX10_goThrough_62 ?_
                refine z_get hC 0 8 9 (v := .int ((va_up (ogX h9 n p9) 0 (upd (ogX h9 n p9 0) 5 (nI s8)) 0) 4)) rfl rfl iX10_goThrough_X10 (by decide) (List.mem_of_getElem? (i := 4) (by decide +kernel)) rfl rfl dX10_goThrough_63 ?_
                refine z_top (nI n) hg8.1 ?_
                refine z_icmp_ge hC 73 dX10_goThrough_66 (by decide) (fun c_66 => ?_) (fun c_66 => ?_)
                · have k_66 : n ≤ s8 := (nI_leI (by omega) (by omega)).mp c_66
                  refine z_iconst hC (nI 0) (by decide +kernel) dX10_goThrough_73 ?_
                  refine z_istore_n hC (by decide) (lv' := [(2, .int (nI 0)), (3, .int (ogY h9 n p9)), (0, .ref (q 0)), (1, .int (nI 1))]) rfl dX10_goThrough_74 ?_
                  refine z_goto hC 36 dX10_goThrough_75 (by decide) ?_
                  refine z_sub [2, 3, 0] (lv' := [(0, .ref (q 0)), (1, .int (nI 1)), (2, .int (nI 0))]) rfl ?_
                  exact z_cast (ih_36 (t9 + 1) (va_up (ogX h9 n p9) 0 (upd (ogX h9 n p9 0) 5 (nI s8))) s8 (nI 0) (by omega) (by omega) (Or.inl ⟨rfl, ((spG_e hsp).symm.trans (hs2.2 (by omega)))⟩)) rfl rfl rfl
                · have k_66 : ¬ (n ≤ s8) := fun q => c_66 ((nI_leI (by omega) (by omega)).mpr q)
                  refine z_iconst hC (nI 1) (by decide +kernel) dX10_goThrough_69 ?_
                  refine z_goto hC 74 dX10_goThrough_70 (by decide) ?_
                  refine z_istore_n hC (by decide) (lv' := [(2, .int (nI 1)), (3, .int (ogY h9 n p9)), (0, .ref (q 0)), (1, .int (nI 1))]) rfl dX10_goThrough_74 ?_
                  refine z_goto hC 36 dX10_goThrough_75 (by decide) ?_
                  refine z_sub [2, 3, 0] (lv' := [(0, .ref (q 0)), (1, .int (nI 1)), (2, .int (nI 1))]) rfl ?_
                  exact z_cast (ih_36 (t9 + 1) (va_up (ogX h9 n p9) 0 (upd (ogX h9 n p9 0) 5 (nI s8))) s8 (nI 1) (by omega) (by omega) (Or.inr ⟨rfl, (by omega), (by omega), go_sp hg8 hs8l.2, (by have := hs2.1 (by omega); rw [spG_e hsp, hsp] at this; exact this)⟩)) rfl rfl rfl
    refine z_sub [1, 2, 0] (lv' := [(0, .ref (q 0)), (1, .int (nI 1)), (2, .int (nI 0))]) rfl ?_
    exact z_cast (lp_36 (150 + 1) 0 (gtH h s9) s9 (nI 0) (by omega) (by omega) (Or.inl ⟨rfl, (gt_c hs9).2 (by omega)⟩)) rfl rfl rfl
  · have k_27 : ¬ (n ≤ s9) := fun q => c_27 ((nI_leI (by omega) (by omega)).mpr q)
    refine z_iconst hC (nI 1) (by decide +kernel) dX10_goThrough_30 ?_
    refine z_goto hC 35 dX10_goThrough_31 (by decide) ?_
    refine z_istore_n hC (by decide) (lv' := [(2, .int (nI 1)), (0, .ref (q 0)), (1, .int (nI 1))]) rfl dX10_goThrough_35 ?_
    have lp_36 : ∀ (d_36 t9 : Nat) (h9 : Nat → Nat → Int32) (p9 : Nat) (b9 : Int32), 150 < t9 + d_36 → t9 ≤ 150 → (gtI ogX ogY n t9 h9 p9 b9 (gtC ogX ogY h n)) → Z E 0 0 [(0, .ref (q 0)), (1, .int (nI 1)), (2, .int b9)] (zMo (zy E) q h9) 36 [] := by
      intro d_36
      induction d_36 with
      | zero => intro t9 h9 p9 b9 q1 q2; omega
      | succ d_36 ih_36 =>
        intro t9 h9 p9 b9 q1_36 q2_36 hI
        refine z_iload_n hC 2 rfl dX10_goThrough_36 ?_
        rcases hI with ⟨rfl, hR⟩ | ⟨rfl, hpn, htp, hgo, hR⟩
        · skip
          refine z_if_eq hC 78 dX10_goThrough_37 (by decide) (fun c_37 => ?_) (fun c_37 => ?_)
          · exact z_vret hC hf rfl rfl (by rw [hR]) dX10_goThrough_78
          · exact absurd c_37 (by decide +kernel)
        · have hst := gt_step (by omega) hR
          refine z_if_eq hC 78 dX10_goThrough_37 (by decide) (fun c_37 => ?_) (fun c_37 => ?_)
          · exact absurd c_37 (by decide +kernel)
          · refine z_aload_n hC 0 rfl dX10_goThrough_40 ?_
            refine z_iload_n hC 1 rfl dX10_goThrough_41 ?_
            refine z_wV hC (As := [.int (nI 1)]) (st := []) (ws2 := zMo (zy E) q (ogX h9 n p9)) (r := some (.int (ogY h9 n p9))) 1 (c_X10_order_1 q h9 n p9 hgo.1 hn1 hgo.2.1 hgo.2.2.1 hgo.2.2.2.1 hgo.2.2.2.2.1 hgo.2.2.2.2.2.1 hgo.2.2.2.2.2.2) gX10_goThrough_X10_order (q0 := 0) (ci := 8) (by decide +kernel) rfl rfl rfl ⟨by decide, by decide⟩ (Nat.le_of_ble_eq_true rfl) rfl rfl dX10_goThrough_42 ?_ hkR
            refine z_istore_n hC (by decide) (lv' := [(3, .int (ogY h9 n p9)), (0, .ref (q 0)), (1, .int (nI 1)), (2, .int (nI 1))]) rfl dX10_goThrough_45 ?_
            refine z_iload_n hC 0 rfl dX10_goThrough_46 ?_
            refine z_if_eq hC 54 dX10_goThrough_47 (by decide) (fun c_47 => ?_) (fun c_47 => ?_)
            · refine z_iload_n hC 0 rfl dX10_goThrough_54 ?_
              refine z_if_eq hC 73 dX10_goThrough_55 (by decide) (fun c_55 => ?_) (fun c_55 => ?_)
              · refine z_iconst hC (nI 0) (by decide +kernel) dX10_goThrough_73 ?_
                refine z_istore_n hC (by decide) (lv' := [(2, .int (nI 0)), (3, .int (ogY h9 n p9)), (0, .ref (q 0)), (1, .int (nI 1))]) rfl dX10_goThrough_74 ?_
                refine z_goto hC 36 dX10_goThrough_75 (by decide) ?_
                refine z_sub [2, 3, 0] (lv' := [(0, .ref (q 0)), (1, .int (nI 1)), (2, .int (nI 0))]) rfl ?_
                exact z_cast (ih_36 (t9 + 1) (ogX h9 n p9) 0 (nI 0) (by omega) (by omega) (Or.inl ⟨rfl, hst.1 c_47⟩)) rfl rfl rfl
              · exact absurd c_47 c_55
            · obtain ⟨p8, hp8, hg8⟩ := go_1 hn1 hgo c_47
              have hs2 := hst.2 c_47
              refine z_aload_n hC 1 rfl dX10_goThrough_50 ?_
              refine z_wV hC (As := []) (st := []) (ws2 := zMo (zy E) q (va_up (ogX h9 n p9) 0 (upd (ogX h9 n p9 0) 5 (nI (skE (ogX h9 n p9 5) n (nI 32) (nI 32) p8))))) (r := none) 0 (c_X10_passSpaces q (ogX h9 n p9) n p8 hg8.1 hn1 hg8.2.1 hg8.2.2.1) gX10_goThrough_X10_passSpaces (q0 := 0) (ci := 8) (by decide +kernel) rfl rfl rfl ⟨by decide, by decide⟩ (Nat.le_of_ble_eq_true rfl) rfl rfl dX10_goThrough_51 ?_ hkR
              have hs8l := skE_le (ogX h9 n p9 5) (nI 32) (nI 32) hg8.2.2.1
              obtain ⟨s8, hs8⟩ : ∃ s, skE (ogX h9 n p9 5) n (nI 32) (nI 32) p8 = s := ⟨_, rfl⟩
              rw [hs8] at hs8l
              have hsp := sp_e hg8.2.1 (by have := hg8.2.2.1; omega) hs8
              refine z_cast (lv := [(3, .int (ogY h9 n p9)), (0, .ref (q 0)), (1, .int (nI 1)), (2, .int (nI 1))]) (ws := (zMo (zy E) q (va_up (ogX h9 n p9) 0 (upd (ogX h9 n p9 0) 5 (nI s8))))) (st := []) ?_ rfl (by rw [hs8]) rfl
              refine z_iload_n hC 0 rfl dX10_goThrough_54 ?_
              refine z_if_eq hC 73 dX10_goThrough_55 (by decide) (fun c_55 => ?_) (fun c_55 => ?_)
              · exact absurd c_55 c_47
              · refine z_aload_n hC 1 rfl dX10_goThrough_58 ?_
                refine z_get hC 0 8 10 (v := .int ((va_up (ogX h9 n p9) 0 (upd (ogX h9 n p9 0) 5 (nI s8)) 0) 5)) rfl rfl iX10_goThrough_X10 (by decide) (List.mem_of_getElem? (i := 1) (by decide +kernel)) rfl rfl dX10_goThrough_59 ?_
                refine z_top (nI s8) rfl ?_
                refine z_aload_n hC 1 rfl dX10_goThrough_62 ?_
                refine z_get hC 0 8 9 (v := .int ((va_up (ogX h9 n p9) 0 (upd (ogX h9 n p9 0) 5 (nI s8)) 0) 4)) rfl rfl iX10_goThrough_X10 (by decide) (List.mem_of_getElem? (i := 4) (by decide +kernel)) rfl rfl dX10_goThrough_63 ?_
                refine z_top (nI n) hg8.1 ?_
                refine z_icmp_ge hC 73 dX10_goThrough_66 (by decide) (fun c_66 => ?_) (fun c_66 => ?_)
                · have k_66 : n ≤ s8 := (nI_leI (by omega) (by omega)).mp c_66
                  refine z_iconst hC (nI 0) (by decide +kernel) dX10_goThrough_73 ?_
                  refine z_istore_n hC (by decide) (lv' := [(2, .int (nI 0)), (3, .int (ogY h9 n p9)), (0, .ref (q 0)), (1, .int (nI 1))]) rfl dX10_goThrough_74 ?_
                  refine z_goto hC 36 dX10_goThrough_75 (by decide) ?_
                  refine z_sub [2, 3, 0] (lv' := [(0, .ref (q 0)), (1, .int (nI 1)), (2, .int (nI 0))]) rfl ?_
                  exact z_cast (ih_36 (t9 + 1) (va_up (ogX h9 n p9) 0 (upd (ogX h9 n p9 0) 5 (nI s8))) s8 (nI 0) (by omega) (by omega) (Or.inl ⟨rfl, ((spG_e hsp).symm.trans (hs2.2 (by omega)))⟩)) rfl rfl rfl
                · have k_66 : ¬ (n ≤ s8) := fun q => c_66 ((nI_leI (by omega) (by omega)).mpr q)
                  refine z_iconst hC (nI 1) (by decide +kernel) dX10_goThrough_69 ?_
                  refine z_goto hC 74 dX10_goThrough_70 (by decide) ?_
                  refine z_istore_n hC (by decide) (lv' := [(2, .int (nI 1)), (3, .int (ogY h9 n p9)), (0, .ref (q 0)), (1, .int (nI 1))]) rfl dX10_goThrough_74 ?_
                  refine z_goto hC 36 dX10_goThrough_75 (by decide) ?_
                  refine z_sub [2, 3, 0] (lv' := [(0, .ref (q 0)), (1, .int (nI 1)), (2, .int (nI 1))]) rfl ?_
                  exact z_cast (ih_36 (t9 + 1) (va_up (ogX h9 n p9) 0 (upd (ogX h9 n p9 0) 5 (nI s8))) s8 (nI 1) (by omega) (by omega) (Or.inr ⟨rfl, (by omega), (by omega), go_sp hg8 hs8l.2, (by have := hs2.1 (by omega); rw [spG_e hsp, hsp] at this; exact this)⟩)) rfl rfl rfl
    refine z_sub [1, 2, 0] (lv' := [(0, .ref (q 0)), (1, .int (nI 1)), (2, .int (nI 1))]) rfl ?_
    exact z_cast (lp_36 (150 + 1) 0 (gtH h s9) s9 (nI 1) (by omega) (by omega) (Or.inr ⟨rfl, (by omega), Nat.zero_le _, ⟨hn, rfl, hsn, rfl, hmt⟩, (gt_c hs9).1 (by omega)⟩)) rfl rfl rfl
