theorem cm_le (f : Nat → Int32) : ∀ S, cmM f S ≤ S
  | 0 => Nat.le_refl 0
  | S + 1 => by
    have := cm_le f S
    show cmM f S + (if f (12 + S) ≤ 0 then 0 else 1) ≤ S + 1
    split <;> omega
theorem sd_v (g : Nat → Nat → Int32) (F : Nat → Int32) : ∀ S, ∀ i, i < S → sdI g F S i = hbl g (nI i) (nI 0)
  | 0, i, h => absurd h (Nat.not_lt_zero _)
  | S + 1, i, h => by
    show upd (sdI g F S) S (hbl g (nI S) (nI 0)) i = _
    by_cases q : i = S
    · rw [q, pk_us]
    · rw [pk_un q]; exact sd_v g F S i (by omega)
theorem sc_cm {g : Nat → Nat → Int32} {f : Nat → Int32} (O : okS g) (H : reS g f) (F : Nat → Int32) : ∀ S, S ≤ 8 → scN g S = nI (cmM f S) ∧ cnS (sdI g F 8) S = cmM f S
  | 0, _ => ⟨rfl, rfl⟩
  | S + 1, h => by
    obtain ⟨i1, i2⟩ := sc_cm O H F S (by omega)
    have e1 : scN g (S + 1) = scN g S + (if g 2 S ≤ 0 then nI 0 else nI 1) := rfl
    have e2 : cnS (sdI g F 8) (S + 1) = cnS (sdI g F 8) S + (if sdI g F 8 S = 0 then 0 else 1) := rfl
    have e3 : cmM f (S + 1) = cmM f S + (if f (12 + S) ≤ 0 then 0 else 1) := rfl
    have hb := hb_0 (okK_of O) (stR_of H) (show S < 8 by omega)
    have e4 := (H.2.2.2.2.2.2.2.2.2.2.1 S (by omega)).1
    rw [e1, e2, e3, i1, i2, sd_v g F 8 S (by omega), ← e4]
    by_cases c : f (12 + S) ≤ 0
    · rw [if_pos c, if_pos c, if_pos (hb.mpr c), nI_add]; exact ⟨rfl, rfl⟩
    · rw [if_neg c, if_neg c, if_neg (fun q => c (hb.mp q)), nI_add]; exact ⟨rfl, rfl⟩
theorem re_ct {g c h : Nat → Nat → Int32} (O : okS g) (H : reS g (h 1)) : tkC g c 0 0 = nI (ctC h).1 ∧ tkC g c 0 1 = (ctC h).2.1 ∧ (∀ j, j < 8 * (ctC h).1 → tkC g c 2 j = (ctC h).2.2 j) ∧ (ctC h).1 ≤ 8 := by
  obtain ⟨s1, s2⟩ := sc_cm O H (c 1) 8 (Nat.le_refl _)
  have hle := cm_le (h 1) 8
  unfold tkC ctC
  rw [s1]
  by_cases q : cmM (h 1) 8 = 0
  · rw [q, if_pos (show nI 0 = 0 from rfl)]
    have e : ctR (h 1) 8 0 0 (cxM (h 1) 8) (-1) (h 4) = (0, (-1), h 4) := if_pos rfl
    rw [e]
    exact ⟨rfl, rfl, fun j hj => absurd hj (Nat.not_lt_zero _), by omega⟩
  · rw [if_neg (nI_ne0 (by omega) (by omega))]
    have hmb : mbR (tk0 g c 1) (cxM (h 1) 8) := by
      obtain ⟨a, ha, e, h1⟩ := cx_v (h 1) 8 (Nat.le_refl _)
      refine ⟨a, ha, e, fun s hs => ?_⟩
      have hb := hb_0 (okK_of O) (stR_of H) hs
      have e1 : tk0 g c 1 s = hbl g (nI s) (nI 0) := sd_v g (c 1) 8 s hs
      rw [e1, h1 s hs]
      exact ⟨fun q2 => ⟨hs, fun q3 => q2 (hb.mpr q3)⟩, fun q2 q3 => q2.2 (hb.mp q3)⟩
    have hz := O.2.2.1.2
    have hch : ∀ b, b < zb g → ∀ k, k < 3 → h 1 (155 + 3 * b + k) = g 12 (b * 3 + k) := fun b hb k hk => by
      have := H.2.2.2.2.2.2.2.2.2.2.2.2 (b * 3 + k) (by omega)
      rw [← this]
      congr 1
      omega
    have hck : ∀ b, b < zb g → ∀ k, k < 3 → ¬ g 12 (b * 3 + k) = (-1) → ∃ j, j < 8 ∧ g 12 (b * 3 + k) = nI j := fun b hb k hk => by
      have := O.2.2.2.2.2.2.1 b hb k hk
      rw [Nat.mul_comm 3 b] at this
      exact this
    obtain ⟨k1, k2, k3, k4⟩ := ct_v (g := g) (f := h 1) (fun i hi => by
      rw [re_zh H hi]
      exact st_vm (stR_of H) hi _ (Nat.le_refl _)) (re_zb H) hz hch hck 8 0 (cmM (h 1) 8) (tk0 g c) (cxM (h 1) 8) (h 4) hmb s2 (by omega) rfl rfl (fun j hj => absurd hj (Nat.not_lt_zero _))
    exact ⟨k1, k2, k3, by omega⟩
theorem re_vc {g c h : Nat → Nat → Int32} (O : okS g) (H : reS g (h 1)) {r s : Nat} (hr : r < 2 ^ 31) (hs : s < 8) : vsC g c r s = if r < (ctC h).1 then (ctC h).2.2 (8 * r + s) else (-1) := by
  obtain ⟨c1, c2, c3, c4⟩ := re_ct (c := c) O H
  unfold vsC
  rw [c1]
  by_cases q : r < (ctC h).1
  · rw [if_pos q, if_neg (fun q2 => by have := (nI_leI (by omega) hr).mp q2; omega), Nat.mul_comm r 8]
    exact c3 _ (by omega)
  · rw [if_neg q, if_pos ((nI_leI (by omega) hr).mpr (by omega))]
theorem mxN_app (F : Nat → Int32) (h : Int64) (m : Nat) : ∀ k, mxN F h (m + k) = mxN (fun j => F (m + j)) (mxN F h m) k
  | 0 => rfl
  | k + 1 => by
    show mx (mxN F h (m + k)) (F (m + k)) = mx (mxN (fun j => F (m + j)) (mxN F h m) k) (F (m + k))
    rw [mxN_app F h m k]
theorem mcL_n (V : Nat → Int32) (h : Int64) : ∀ R, mcL V h R = mxN V h (8 * R)
  | 0 => rfl
  | R + 1 => by
    show mxN (fun s => V (R * 8 + s)) (mcL V h R) 8 = mxN V h (8 * R + 8)
    rw [mcL_n V h R, mxN_app, Nat.mul_comm R 8]
theorem re_dg {g t c o n h : Nat → Nat → Int32} (O : okS g) (H : reS g (h 1)) (hl : o 0 0 = h 0 4) (hu : n 0 0 = h 0 0) : dgC g t c o n = dgD h := by
  have e1 : h0t h 1 = h 1 := rfl
  have e4 : h0t h 0 4 = h 0 4 := rfl
  have eC : ctC (h0t h) = ctC h := by
    unfold ctC
    rw [e1]
    rfl
  obtain ⟨c1, c2, c3, c4⟩ := re_ct (c := c) O H
  have hw : mxN (fun w => wvC g o w) (mx 43420 (n 0 0)) 16 = mxN (fun w => wvM (h0t h) w) (dgS h) 16 := by
    have e0 : mx 43420 (n 0 0) = dgS h := by
      unfold mx dgS
      rw [hu, show (31 : Int64) * 43420 = 1346020 by decide +kernel]
    rw [e0]
    exact mxN_cg 16 (fun w hw => re_wv (h := h0t h) (by rw [e1]; exact H) (by rw [e4]; exact hl) w hw)
  have ek : tkN g c = (ctC h).1 := by
    unfold tkN
    rw [c1, nI_clamp (by omega)]
  unfold dgC dgD dgT mcC
  rw [hw, re_ds O H _ 8 (Nat.le_refl _), re_dt H _ _ (Nat.le_refl _), re_zt H, eC, (re_bw O H 8 (Nat.le_refl _)).1, c1, c2, mcL_n, ek, mxN_cg (F := tkC g c 2) (G := (ctC h).2.2) _ c3]

